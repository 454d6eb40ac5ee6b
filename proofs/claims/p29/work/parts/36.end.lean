/-! THE LAW: what is refused; its beginning -/
set_option maxRecDepth 100000 in
set_option maxHeartbeats 600000 in
theorem lw_end {l : zw_Lh} {σ : zZ} {m n : Nat} {M : zw_M} (hI : lI M σ m n) (hm6 : 1 ≤ m ∧ m ≤ 6) (hn0 : 0 < n) : zw_X l 7 iL_law lQ 1165 [.ref 37, .ref 0, .ref 33, .ref 34, .ref 35, .ref 36, .int (zn_I (n : Int)), .int (zn_I (m : Int)), .retAddr 0, .retAddr 0, .retAddr 0, .retAddr 0, .retAddr 0, .retAddr 0, .retAddr 0, .retAddr 0, .retAddr 0, .retAddr 0, .retAddr 0, .retAddr 0, .retAddr 0, .retAddr 0, .retAddr 0, .retAddr 0, .retAddr 0, .retAddr 0] [] M := by
  obtain ⟨hC0, hA, hB, hm, hn⟩ := id hI
  have h30 := zp_30 hC0.1.1
  have h0 : zthing σ 0 := ⟨by omega, by omega⟩
  refine zx_aload_n dL_law_1165 rfl ?_
  refine zx_iload dL_law_1166 rfl ?_
  refine zx_iconst (v := zn_I 0) dL_law_1168 rfl ?_
  refine zx_callV (y1 := iX10_about) dL_law_1169 lL_71 vX10_about rc_0 (mX10_about hC0 (z := (m : Int)) (w := 0) (by omega) (by omega)) rfl rfl (Nat.le_of_ble_eq_true rfl) ?_
  intro v M1 he
  obtain ⟨rfl, hf1, hC1⟩ := he
  rw [show zk_about σ (m : Int) 0 = -101 from by rw [zk_about, if_pos (fun r => by have r2 := r.2; omega)]]
  refine zx_bipush (v := zn_I (-101)) dL_law_1172 (by decide) ?_
  refine zy_icmp_ne (tgt := 1435) dL_law_1174 (by decide) (by omega) (fun h_1174 => ?_) (fun h_1174 => ?_)
  · exact absurd rfl h_1174
  · refine zx_aload_n dL_law_1177 rfl ?_
    refine zx_iconst (v := zn_I 0) dL_law_1178 rfl ?_
    refine zx_iconst (v := zn_I 3) dL_law_1179 rfl ?_
    refine zx_callV (y1 := iX10_about) dL_law_1180 lL_71 vX10_about rc_0 (mX10_about hC1 (z := 0) (w := 3) (by omega) (by omega)) rfl rfl (Nat.le_of_ble_eq_true rfl) ?_
    intro v M2 he
    obtain ⟨rfl, hf2, hC2⟩ := he
    rw [show zk_about σ 0 3 = -102 from by rw [zk_about, if_neg (fun r => r h0), if_neg (by decide), if_neg (by decide), if_neg (by decide), if_neg (by decide)]]
    refine zx_bipush (v := zn_I (-102)) dL_law_1183 (by decide) ?_
    refine zy_icmp_ne (tgt := 1435) dL_law_1185 (by decide) (by omega) (fun h_1185 => ?_) (fun h_1185 => ?_)
    · exact absurd rfl h_1185
    · refine zx_aload_n dL_law_1188 rfl ?_
      refine zx_iconst (v := zn_I 0) dL_law_1189 rfl ?_
      refine zx_bipush (v := zn_I 9) dL_law_1190 (by decide) ?_
      refine zx_callV (y1 := iX10_about) dL_law_1192 lL_71 vX10_about rc_0 (mX10_about hC2 (z := 0) (w := 9) (by omega) (by omega)) rfl rfl (Nat.le_of_ble_eq_true rfl) ?_
      intro v M3 he
      obtain ⟨rfl, hf3, hC3⟩ := he
      rw [show zk_about σ 0 9 = -102 from by rw [zk_about, if_neg (fun r => r h0), if_neg (by decide), if_neg (by decide), if_neg (by decide), if_neg (by decide)]]
      refine zx_bipush (v := zn_I (-102)) dL_law_1195 (by decide) ?_
      refine zy_icmp_ne (tgt := 1435) dL_law_1197 (by decide) (by omega) (fun h_1197 => ?_) (fun h_1197 => ?_)
      · exact absurd rfl h_1197
      · refine zx_aload_n dL_law_1200 rfl ?_
        refine zx_iconst (v := zn_I 0) dL_law_1201 rfl ?_
        refine zx_bipush (v := zn_I 18) dL_law_1202 (by decide) ?_
        refine zx_callV (y1 := iX10_about) dL_law_1204 lL_71 vX10_about rc_0 (mX10_about hC3 (z := 0) (w := 18) (by omega) (by omega)) rfl rfl (Nat.le_of_ble_eq_true rfl) ?_
        intro v M4 he
        obtain ⟨rfl, hf4, hC4⟩ := he
        rw [show zk_about σ 0 18 = -102 from by rw [zk_about, if_neg (fun r => r h0), if_neg (by decide), if_neg (by decide), if_neg (by decide), if_neg (by decide)]]
        refine zx_bipush (v := zn_I (-102)) dL_law_1207 (by decide) ?_
        refine zy_icmp_ne (tgt := 1435) dL_law_1209 (by decide) (by omega) (fun h_1209 => ?_) (fun h_1209 => ?_)
        · exact absurd rfl h_1209
        · refine zx_aload_n dL_law_1212 rfl ?_
          refine zx_iload dL_law_1213 rfl ?_
          refine zx_iconst (v := zn_I 0) dL_law_1215 rfl ?_
          refine zx_callV (y1 := iX10_as) dL_law_1216 lL_62 vX10_as rc_0 (mX10_as hC4 (z := (m : Int)) (k := 0) (by omega) (by omega)) rfl rfl (Nat.le_of_ble_eq_true rfl) ?_
          intro v M5 he
          obtain ⟨rfl, hf5, hC5⟩ := he
          rw [show zk_as σ (m : Int) 0 = -101 from by rw [zk_as, if_pos (fun r => by have r2 := r.2; omega)]]
          refine zx_bipush (v := zn_I (-101)) dL_law_1219 (by decide) ?_
          refine zy_icmp_ne (tgt := 1435) dL_law_1221 (by decide) (by omega) (fun h_1221 => ?_) (fun h_1221 => ?_)
          · exact absurd rfl h_1221
          · refine zx_aload_n dL_law_1224 rfl ?_
            refine zx_iconst (v := zn_I 0) dL_law_1225 rfl ?_
            refine zx_iconst (v := zn_I 5) dL_law_1226 rfl ?_
            refine zx_callV (y1 := iX10_as) dL_law_1227 lL_62 vX10_as rc_0 (mX10_as hC5 (z := 0) (k := 5) (by omega) (by omega)) rfl rfl (Nat.le_of_ble_eq_true rfl) ?_
            intro v M6 he
            obtain ⟨rfl, hf6, hC6⟩ := he
            rw [show zk_as σ 0 5 = -102 from by rw [zk_as, if_neg (fun r => r h0), if_pos (by decide)]]
            refine zx_bipush (v := zn_I (-102)) dL_law_1230 (by decide) ?_
            refine zy_icmp_ne (tgt := 1435) dL_law_1232 (by decide) (by omega) (fun h_1232 => ?_) (fun h_1232 => ?_)
            · exact absurd rfl h_1232
            · refine zx_aload_n dL_law_1235 rfl ?_
              refine zx_iload dL_law_1236 rfl ?_
              refine zx_iconst (v := zn_I 0) dL_law_1238 rfl ?_
              refine zx_iconst (v := zn_I 0) dL_law_1239 rfl ?_
              refine zx_callV (y1 := iX10_stand) dL_law_1240 lL_39 vX10_stand rc_0 (mX10_stand hC6 (z := (m : Int)) (q := 0) (s := 0) (by omega) (by omega) (by omega)) rfl rfl (Nat.le_of_ble_eq_true rfl) ?_
              intro v M7 he
              obtain ⟨rfl, hf7, hC7⟩ := he
              rw [show zk_stand σ (m : Int) 0 0 = -101 from by rw [zk_stand, if_pos (fun r => by have r2 := r.1.2; omega)]]
              rw [show zk_standS σ (m : Int) 0 0 = σ from by rw [zk_standS, if_neg (fun r => by have r2 := r.1.1.2; omega)]] at hC7
              refine zx_bipush (v := zn_I (-101)) dL_law_1243 (by decide) ?_
              refine zy_icmp_ne (tgt := 1435) dL_law_1245 (by decide) (by omega) (fun h_1245 => ?_) (fun h_1245 => ?_)
              · exact absurd rfl h_1245
              · refine zx_aload_n dL_law_1248 rfl ?_
                refine zx_iconst (v := zn_I 0) dL_law_1249 rfl ?_
                refine zx_bipush (v := zn_I 8) dL_law_1250 (by decide) ?_
                refine zx_iconst (v := zn_I 0) dL_law_1252 rfl ?_
                refine zx_callV (y1 := iX10_stand) dL_law_1253 lL_39 vX10_stand rc_0 (mX10_stand hC7 (z := 0) (q := 8) (s := 0) (by omega) (by omega) (by omega)) rfl rfl (Nat.le_of_ble_eq_true rfl) ?_
                intro v M8 he
                obtain ⟨rfl, hf8, hC8⟩ := he
                rw [show zk_stand σ 0 8 0 = -101 from by rw [zk_stand, if_pos (fun r => by have r2 := r.2.1.2; omega)]]
                rw [show zk_standS σ 0 8 0 = σ from by rw [zk_standS, if_neg (fun r => by have r2 := r.1.2.1.2; omega)]] at hC8
                refine zx_bipush (v := zn_I (-101)) dL_law_1256 (by decide) ?_
                refine zy_icmp_ne (tgt := 1435) dL_law_1258 (by decide) (by omega) (fun h_1258 => ?_) (fun h_1258 => ?_)
                · exact absurd rfl h_1258
                · refine zx_aload_n dL_law_1261 rfl ?_
                  refine zx_iconst (v := zn_I 0) dL_law_1262 rfl ?_
                  refine zx_iconst (v := zn_I 0) dL_law_1263 rfl ?_
                  refine zx_iload dL_law_1264 rfl ?_
                  refine zx_callV (y1 := iX10_stand) dL_law_1266 lL_39 vX10_stand rc_0 (mX10_stand hC8 (z := 0) (q := 0) (s := (n : Int)) (by omega) (by omega) (by omega)) rfl rfl (Nat.le_of_ble_eq_true rfl) ?_
                  intro v M9 he
                  obtain ⟨rfl, hf9, hC9⟩ := he
                  rw [show zk_stand σ 0 0 (n : Int) = -101 from by rw [zk_stand, if_pos (fun r => by have r2 := r.2.2.2; omega)]]
                  rw [show zk_standS σ 0 0 (n : Int) = σ from by rw [zk_standS, if_neg (fun r => by have r2 := r.1.2.2.2; omega)]] at hC9
                  refine zx_bipush (v := zn_I (-101)) dL_law_1269 (by decide) ?_
                  refine zy_icmp_ne (tgt := 1435) dL_law_1271 (by decide) (by omega) (fun h_1271 => ?_) (fun h_1271 => ?_)
                  · exact absurd rfl h_1271
                  · refine zx_aload_n dL_law_1274 rfl ?_
                    refine zx_iload dL_law_1275 rfl ?_
                    refine zx_iconst (v := zn_I 0) dL_law_1277 rfl ?_
                    refine zx_callV (y1 := iX10_put) dL_law_1278 lL_66 vX10_put rc_0 (mX10_put hC9 (z := (m : Int)) (s := 0) (by omega) (by omega)) rfl rfl (Nat.le_of_ble_eq_true rfl) ?_
                    intro v M10 he
                    obtain ⟨rfl, hf10, hC10⟩ := he
                    rw [show zk_put σ (m : Int) 0 = -101 from by rw [zk_put, if_pos (fun r => by have r2 := r.1.2; omega)]]
                    rw [show zk_putS σ (m : Int) 0 = σ from by rw [zk_putS, if_neg (fun r => by have r2 := r.1.1.2; omega)]] at hC10
                    refine zx_bipush (v := zn_I (-101)) dL_law_1281 (by decide) ?_
                    refine zy_icmp_ne (tgt := 1435) dL_law_1283 (by decide) (by omega) (fun h_1283 => ?_) (fun h_1283 => ?_)
                    · exact absurd rfl h_1283
                    · refine zx_aload_n dL_law_1286 rfl ?_
                      refine zx_iconst (v := zn_I 0) dL_law_1287 rfl ?_
                      refine zx_iload dL_law_1288 rfl ?_
                      refine zx_callV (y1 := iX10_put) dL_law_1290 lL_66 vX10_put rc_0 (mX10_put hC10 (z := 0) (s := (n : Int)) (by omega) (by omega)) rfl rfl (Nat.le_of_ble_eq_true rfl) ?_
                      intro v M11 he
                      obtain ⟨rfl, hf11, hC11⟩ := he
                      rw [show zk_put σ 0 (n : Int) = -101 from by rw [zk_put, if_pos (fun r => by have r2 := r.2.2; omega)]]
                      rw [show zk_putS σ 0 (n : Int) = σ from by rw [zk_putS, if_neg (fun r => by have r2 := r.1.2.2; omega)]] at hC11
                      refine zx_bipush (v := zn_I (-101)) dL_law_1293 (by decide) ?_
                      refine zy_icmp_ne (tgt := 1435) dL_law_1295 (by decide) (by omega) (fun h_1295 => ?_) (fun h_1295 => ?_)
                      · exact absurd rfl h_1295
                      · refine zx_aload_n dL_law_1298 rfl ?_
                        refine zx_iconst (v := zn_I 0) dL_law_1299 rfl ?_
                        refine zx_iload dL_law_1300 rfl ?_
                        refine zx_iconst (v := zn_I 0) dL_law_1302 rfl ?_
                        refine zx_callV (y1 := iX10_trade) dL_law_1303 lL_68 vX10_trade rc_0 (mX10_trade hC11 (a := 0) (b := (m : Int)) (q := 0) (by omega) (by omega) (by omega)) rfl rfl (Nat.le_of_ble_eq_true rfl) ?_
                        intro v M12 he
                        obtain ⟨rfl, hf12, hC12⟩ := he
                        rw [show zk_trade σ 0 (m : Int) 0 = -101 from by rw [zk_trade, if_pos (fun r => by have r2 := r.2.1.2; omega)]]
                        rw [show zk_tradeS σ 0 (m : Int) 0 = σ from by rw [zk_tradeS, if_neg (fun r => by have r2 := r.1.2.1.2; omega)]] at hC12
                        refine zx_bipush (v := zn_I (-101)) dL_law_1306 (by decide) ?_
                        refine zy_icmp_ne (tgt := 1435) dL_law_1308 (by decide) (by omega) (fun h_1308 => ?_) (fun h_1308 => ?_)
                        · exact absurd rfl h_1308
                        · refine zx_aload_n dL_law_1311 rfl ?_
                          refine zx_iconst (v := zn_I 0) dL_law_1312 rfl ?_
                          refine zx_iconst (v := zn_I 0) dL_law_1313 rfl ?_
                          refine zx_bipush (v := zn_I 8) dL_law_1314 (by decide) ?_
                          refine zx_callV (y1 := iX10_trade) dL_law_1316 lL_68 vX10_trade rc_0 (mX10_trade hC12 (a := 0) (b := 0) (q := 8) (by omega) (by omega) (by omega)) rfl rfl (Nat.le_of_ble_eq_true rfl) ?_
                          intro v M13 he
                          obtain ⟨rfl, hf13, hC13⟩ := he
                          rw [show zk_trade σ 0 0 8 = -101 from by rw [zk_trade, if_pos (fun r => by have r2 := r.2.2.2; omega)]]
                          rw [show zk_tradeS σ 0 0 8 = σ from by rw [zk_tradeS, if_neg (fun r => by have r2 := r.1.2.2.2; omega)]] at hC13
                          refine zx_bipush (v := zn_I (-101)) dL_law_1319 (by decide) ?_
                          refine zy_icmp_ne (tgt := 1435) dL_law_1321 (by decide) (by omega) (fun h_1321 => ?_) (fun h_1321 => ?_)
                          · exact absurd rfl h_1321
                          · refine zx_aload_n dL_law_1324 rfl ?_
                            refine zx_bipush (v := zn_I 8) dL_law_1325 (by decide) ?_
                            refine zx_iconst (v := zn_I 0) dL_law_1327 rfl ?_
                            refine zx_callV (y1 := iX10_leans) dL_law_1328 lL_74 vX10_leans rc_0 (mX10_leans hC13 (q := 8) (w := 0) (by omega) (by omega)) rfl rfl (Nat.le_of_ble_eq_true rfl) ?_
                            intro v M14 he
                            obtain ⟨rfl, hf14, hC14⟩ := he
                            rw [show zk_leans σ 8 0 = -100101 from by rw [zk_leans, if_pos (by decide)]]
                            refine zx_ldc dL_law_1331 kL_89 ?_
                            refine zy_top (show (-100101 : Int32) = zn_I (-100101) from by decide) ?_
                            refine zy_icmp_ne (tgt := 1435) dL_law_1333 (by decide) (by omega) (fun h_1333 => ?_) (fun h_1333 => ?_)
                            · exact absurd rfl h_1333
                            · refine zx_aload_n dL_law_1336 rfl ?_
                              refine zx_iconst (v := zn_I 0) dL_law_1337 rfl ?_
                              refine zx_iconst (v := zn_I 2) dL_law_1338 rfl ?_
                              refine zx_callV (y1 := iX10_leans) dL_law_1339 lL_74 vX10_leans rc_0 (mX10_leans hC14 (q := 0) (w := 2) (by omega) (by omega)) rfl rfl (Nat.le_of_ble_eq_true rfl) ?_
                              intro v M15 he
                              obtain ⟨rfl, hf15, hC15⟩ := he
                              rw [show zk_leans σ 0 2 = -100102 from by rw [zk_leans, if_neg (by decide), if_neg (by decide), if_neg (by decide)]]
                              refine zx_ldc dL_law_1342 kL_90 ?_
                              refine zy_top (show (-100102 : Int32) = zn_I (-100102) from by decide) ?_
                              refine zy_icmp_ne (tgt := 1435) dL_law_1344 (by decide) (by omega) (fun h_1344 => ?_) (fun h_1344 => ?_)
                              · exact absurd rfl h_1344
                              · refine zx_aload_n dL_law_1347 rfl ?_
                                refine zx_iload dL_law_1348 rfl ?_
                                refine zx_iconst (v := zn_I 0) dL_law_1350 rfl ?_
                                refine zx_callV (y1 := iX10_dip) dL_law_1351 lL_79 vX10_dip rc_0 (mX10_dip hC15 (s := (n : Int)) (q := 0) (by omega) (by omega)) rfl rfl (Nat.le_of_ble_eq_true rfl) ?_
                                intro v M16 he
                                obtain ⟨rfl, hf16, hC16⟩ := he
                                rw [show zk_dip σ (n : Int) 0 = -1000101 from by rw [zk_dip, if_pos (fun r => by have r2 := r.1.2; omega)]]
                                refine zx_ldc dL_law_1354 kL_91 ?_
                                refine zy_top (show (-1000101 : Int32) = zn_I (-1000101) from by decide) ?_
                                refine zy_icmp_ne (tgt := 1435) dL_law_1356 (by decide) (by omega) (fun h_1356 => ?_) (fun h_1356 => ?_)
                                · exact absurd rfl h_1356
                                · refine zx_aload_n dL_law_1359 rfl ?_
                                  refine zx_iconst (v := zn_I 0) dL_law_1360 rfl ?_
                                  refine zx_bipush (v := zn_I 8) dL_law_1361 (by decide) ?_
                                  refine zx_callV (y1 := iX10_dip) dL_law_1363 lL_79 vX10_dip rc_0 (mX10_dip hC16 (s := 0) (q := 8) (by omega) (by omega)) rfl rfl (Nat.le_of_ble_eq_true rfl) ?_
                                  intro v M17 he
                                  obtain ⟨rfl, hf17, hC17⟩ := he
                                  rw [show zk_dip σ 0 8 = -1000101 from by rw [zk_dip, if_pos (fun r => by have r2 := r.2.2; omega)]]
                                  refine zx_ldc dL_law_1366 kL_91 ?_
                                  refine zy_top (show (-1000101 : Int32) = zn_I (-1000101) from by decide) ?_
                                  refine zy_icmp_ne (tgt := 1435) dL_law_1368 (by decide) (by omega) (fun h_1368 => ?_) (fun h_1368 => ?_)
                                  · exact absurd rfl h_1368
                                  · refine zx_aload_n dL_law_1371 rfl ?_
                                    refine zx_bipush (v := zn_I 8) dL_law_1372 (by decide) ?_
                                    refine zx_callV (y1 := iX10_wet) dL_law_1374 lL_77 vX10_wet rc_0 (mX10_wet hC17 (q := 8) (by omega)) rfl rfl (Nat.le_of_ble_eq_true rfl) ?_
                                    intro v M18 he
                                    obtain ⟨rfl, hf18, hC18⟩ := he
                                    rw [show zk_wet σ 8 = -101 from by rw [zk_wet, if_neg (by decide)]]
                                    refine zx_bipush (v := zn_I (-101)) dL_law_1377 (by decide) ?_
                                    refine zy_icmp_ne (tgt := 1435) dL_law_1379 (by decide) (by omega) (fun h_1379 => ?_) (fun h_1379 => ?_)
                                    · exact absurd rfl h_1379
                                    · refine zx_aload_n dL_law_1382 rfl ?_
                                      refine zx_iconst (v := zn_I 0) dL_law_1383 rfl ?_
                                      refine zx_iconst (v := zn_I 0) dL_law_1384 rfl ?_
                                      refine zx_iconst (v := zn_I 0) dL_law_1385 rfl ?_
                                      refine zx_callV (y1 := iX10_late) dL_law_1386 lL_86 vX10_late rc_0 (mX10_late hC18 (q := 0) (e := 0) (x := 0) (by omega) (by omega) (by omega)) rfl rfl (Nat.le_of_ble_eq_true rfl) ?_
                                      intro v M19 he
                                      obtain ⟨rfl, hf19, hC19⟩ := he
                                      rw [show zk_late σ 0 0 0 = -101 from by rw [zk_late, if_pos (by decide)]]
                                      refine zx_bipush (v := zn_I (-101)) dL_law_1389 (by decide) ?_
                                      refine zy_icmp_ne (tgt := 1435) dL_law_1391 (by decide) (by omega) (fun h_1391 => ?_) (fun h_1391 => ?_)
                                      · exact absurd rfl h_1391
                                      · refine zx_aload_n dL_law_1394 rfl ?_
                                        refine zx_bipush (v := zn_I 8) dL_law_1395 (by decide) ?_
                                        refine zx_iconst (v := zn_I 0) dL_law_1397 rfl ?_
                                        refine zx_iconst (v := zn_I 0) dL_law_1398 rfl ?_
                                        refine zx_callV (y1 := iX10_late) dL_law_1399 lL_86 vX10_late rc_0 (mX10_late hC19 (q := 8) (e := 0) (x := 0) (by omega) (by omega) (by omega)) rfl rfl (Nat.le_of_ble_eq_true rfl) ?_
                                        intro v M20 he
                                        obtain ⟨rfl, hf20, hC20⟩ := he
                                        rw [show zk_late σ 8 0 0 = -101 from by rw [zk_late, if_pos (by decide)]]
                                        refine zx_bipush (v := zn_I (-101)) dL_law_1402 (by decide) ?_
                                        refine zy_icmp_ne (tgt := 1435) dL_law_1404 (by decide) (by omega) (fun h_1404 => ?_) (fun h_1404 => ?_)
                                        · exact absurd rfl h_1404
                                        · refine zx_aload_n dL_law_1407 rfl ?_
                                          refine zx_iconst (v := zn_I 1) dL_law_1408 rfl ?_
                                          refine zx_iconst (v := zn_I (-1)) dL_law_1409 rfl ?_
                                          refine zx_iconst (v := zn_I 0) dL_law_1410 rfl ?_
                                          refine zx_callV (y1 := iX10_late) dL_law_1411 lL_86 vX10_late rc_0 (mX10_late hC20 (q := 1) (e := -1) (x := 0) (by omega) (by omega) (by omega)) rfl rfl (Nat.le_of_ble_eq_true rfl) ?_
                                          intro v M21 he
                                          obtain ⟨rfl, hf21, hC21⟩ := he
                                          rw [show zk_late σ 1 (-1) 0 = -102 from by rw [zk_late, if_neg (by decide), if_pos (fun r => by have r2 := r.1.1; omega)]]
                                          refine zx_bipush (v := zn_I (-102)) dL_law_1414 (by decide) ?_
                                          refine zy_icmp_ne (tgt := 1435) dL_law_1416 (by decide) (by omega) (fun h_1416 => ?_) (fun h_1416 => ?_)
                                          · exact absurd rfl h_1416
                                          · refine zx_aload_n dL_law_1419 rfl ?_
                                            refine zx_iconst (v := zn_I 1) dL_law_1420 rfl ?_
                                            refine zx_iconst (v := zn_I 0) dL_law_1421 rfl ?_
                                            refine zx_iconst (v := zn_I 3) dL_law_1422 rfl ?_
                                            refine zx_callV (y1 := iX10_late) dL_law_1423 lL_86 vX10_late rc_0 (mX10_late hC21 (q := 1) (e := 0) (x := 3) (by omega) (by omega) (by omega)) rfl rfl (Nat.le_of_ble_eq_true rfl) ?_
                                            intro v M22 he
                                            obtain ⟨rfl, hf22, hC22⟩ := he
                                            rw [show zk_late σ 1 0 3 = -102 from by rw [zk_late, if_neg (by decide), if_pos (fun r => by have r2 := r.2.2; omega)]]
                                            refine zx_bipush (v := zn_I (-102)) dL_law_1426 (by decide) ?_
                                            refine zy_icmp_ne (tgt := 1435) dL_law_1428 (by decide) (by omega) (fun h_1428 => ?_) (fun h_1428 => ?_)
                                            · exact absurd rfl h_1428
                                            · refine zx_iconst (v := zn_I 1) dL_law_1431 rfl ?_
                                              refine zx_goto (tgt := 1436) dL_law_1432 (by decide) ?_
                                              refine zx_iret (st := []) dL_law_1436 rfl rfl ?_
                                              exact rfl
set_option maxRecDepth 100000 in
set_option maxHeartbeats 600000 in
theorem lw_all {l : zw_Lh} {M : zw_M} {σ : zZ} (hL : l.2.1 ≤ 260) (hC : zC_ M σ) (hρ : σ.2.2.1.1 = 0) : zw_X l 7 iL_law lQ 29 [.ref 37, .ref 0, .ref 33, .ref 34, .ref 35, .ref 36, .retAddr 0, .retAddr 0, .retAddr 0, .retAddr 0, .retAddr 0, .retAddr 0, .retAddr 0, .retAddr 0, .retAddr 0, .retAddr 0, .retAddr 0, .retAddr 0, .retAddr 0, .retAddr 0, .retAddr 0, .retAddr 0, .retAddr 0, .retAddr 0, .retAddr 0, .retAddr 0] [] M := by
  obtain ⟨r, er⟩ : ∃ r, 2 + lS l 0 % 4 = r := ⟨_, rfl⟩
  obtain ⟨w, ew⟩ : ∃ w, 2 + lS l 0 / 8 % 5 = w := ⟨_, rfl⟩
  refine zx_aload_n dL_law_29 rfl ?_
  refine zx_aload_n dL_law_30 rfl ?_
  refine zx_iconst (v := zn_I 0) dL_law_31 rfl ?_
  refine zx_iconst (v := zn_I 5) dL_law_32 rfl ?_
  refine zx_aload_n dL_law_33 rfl ?_
  refine zx_aload_n dL_law_34 rfl ?_
  refine zx_callS (y1 := iL_plan) dL_law_35 lL_56 sL_plan (mL_plan hC hρ hL er.symm ew.symm) rfl rfl (Nat.le_of_ble_eq_true rfl) ?_
  intro v M1 he
  obtain ⟨rfl, hf1, σ1, hC1, hA1, hr1, hw1, ht1⟩ := he
  refine zy_if_ne (tgt := 43) dL_law_38 (by decide) (by omega) (fun h_38 => ?_) (fun h_38 => ?_)
  · refine zx_aload_n dL_law_43 rfl ?_
    refine zx_iconst (v := zn_I 0) dL_law_44 rfl ?_
    refine zy_iald (i := 0) dL_law_45 rfl (by decide) (by omega) (by omega) (hA1.1) ?_
    refine zx_aload_n dL_law_46 rfl ?_
    refine zx_iconst (v := zn_I 1) dL_law_47 rfl ?_
    refine zy_iald (i := 1) dL_law_48 rfl (by decide) (by omega) (by omega) (hA1.2.1) ?_
    refine zy_imul dL_law_49 ?_
    refine zy_top (show _ = zn_I (zp_n σ1.1 : Nat) from congrArg zn_I (Int.natCast_mul σ1.1.1 σ1.1.2.1).symm) ?_
    have h30 := zp_30 hC1.1.1
    obtain ⟨n, en⟩ : ∃ n, zp_n σ1.1 = n := ⟨_, rfl⟩
    rw [en]
    have hn0 : 0 < n := by rw [← en]; exact Nat.mul_pos (by omega) (by omega)
    refine zx_istore dL_law_50 rfl (Nat.le_of_ble_eq_true rfl) ?_
    refine zx_iconst (v := zn_I 1) dL_law_52 rfl ?_
    refine zx_aload_n dL_law_53 rfl ?_
    refine zx_bipush (v := zn_I 7) dL_law_54 (by decide) ?_
    refine zx_callS (y1 := iL_cell) dL_law_56 lL_14 sL_cell (mL_cell hL (k := 7) (by omega)) rfl rfl (Nat.le_of_ble_eq_true rfl) ?_
    refine zk_i ?_
    refine zx_bipush (v := zn_I 6) dL_law_59 (by decide) ?_
    refine zy_irem (a := lS l 7) (b := 6) dL_law_61 (by have := lS_lt l 7; omega) ?_
    refine zy_iadd dL_law_62 ?_
    refine zy_top (show _ = zn_I ((1 + lS l 7 % 6 : Nat) : Int) from congrArg zn_I (by omega)) ?_
    obtain ⟨m, em⟩ : ∃ m, 1 + lS l 7 % 6 = m := ⟨_, rfl⟩
    have hm6 : 1 ≤ m ∧ m ≤ 6 := by omega
    rw [em]
    refine zx_istore dL_law_63 rfl (Nat.le_of_ble_eq_true rfl) ?_
    refine zx_aload_n dL_law_65 rfl ?_
    refine zx_aload_n dL_law_66 rfl ?_
    refine zx_bipush (v := zn_I 8) dL_law_67 (by decide) ?_
    refine zx_iload dL_law_69 rfl ?_
    refine zx_aload_n dL_law_71 rfl ?_
    refine zx_aload dL_law_72 rfl ?_
    refine zx_callS (y1 := iL_things) dL_law_74 lL_59 sL_things (mL_things hC1 hA1 ht1 ⟨by omega, by omega⟩ hm6 hL) rfl rfl (Nat.le_of_ble_eq_true rfl) ?_
    intro v M2 he
    obtain ⟨rfl, hf2, τ2, hC2, ht2, hB2⟩ := he
    have hI : lI M2 (zst σ1 τ2) m n := ⟨hC2, lA_f hf2 hA1 (by decide), hB2, ht2, en⟩
    refine zy_if_ne (tgt := 82) dL_law_77 (by decide) (by omega) (fun h_77 => ?_) (fun h_77 => ?_)
    · refine zx_iconst (v := zn_I 0) dL_law_82 rfl ?_
      refine zx_istore dL_law_83 rfl (Nat.le_of_ble_eq_true rfl) ?_
      refine zx_weak (L1 := [.ref 37, .ref 0, .ref 33, .ref 34, .ref 35, .ref 36, .int (zn_I (n : Int)), .int (zn_I (m : Int)), .int (zn_I (0 : Int)), .retAddr 0, .retAddr 0, .retAddr 0, .retAddr 0, .retAddr 0, .retAddr 0, .retAddr 0, .retAddr 0, .retAddr 0, .retAddr 0, .retAddr 0, .retAddr 0, .retAddr 0, .retAddr 0, .retAddr 0, .retAddr 0, .retAddr 0]) ⟨Or.inr rfl, ⟨Or.inr rfl, ⟨Or.inr rfl, ⟨Or.inr rfl, ⟨Or.inr rfl, ⟨Or.inr rfl, ⟨Or.inr rfl, ⟨Or.inr rfl, ⟨Or.inr rfl, ⟨Or.inl rfl, ⟨Or.inl rfl, ⟨Or.inl rfl, ⟨Or.inl rfl, ⟨Or.inl rfl, ⟨Or.inl rfl, ⟨Or.inl rfl, ⟨Or.inl rfl, ⟨Or.inl rfl, ⟨Or.inl rfl, ⟨Or.inl rfl, ⟨Or.inl rfl, ⟨Or.inl rfl, ⟨Or.inl rfl, ⟨Or.inl rfl, ⟨Or.inl rfl, ⟨Or.inl rfl, trivial⟩⟩⟩⟩⟩⟩⟩⟩⟩⟩⟩⟩⟩⟩⟩⟩⟩⟩⟩⟩⟩⟩⟩⟩⟩⟩ ?_
      refine lw_as hI hm6 (fun M3 hI3 => ?_)
      refine lw_turns hL hI3 hm6 hn0 (fun σ4 M4 hI4 => ?_)
      exact lw_end hI4 hm6 hn0
    · exact absurd h_77 (by omega)
  · exact absurd h_38 (by omega)
