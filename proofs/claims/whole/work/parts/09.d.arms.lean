section
variable {p : Program} {l : Launch} {e : Env} {s : State} {m : MethodId} {args : Array Value} {below : List Frame} {meth : Method} {c : Code} {G : GX} {qf : Unit × PH → State → Prop} {cells slots : Nat} {h : PH} {bs L : Nat} {xs : Nat → Int32} {a1 a2 k : Nat}
set_option maxHeartbeats 4000000 in
theorem arm_bar (C : Cx p s m args meth c G code 4 R_law) (X : SX G s bs L xs) (hk : k + 7 ≤ L) (hc : cells + 2 ≤ 600000) (hs : slots + 15 ≤ 7302250) {K : PH → Option (Unit × PH)} (kk : ∀ (h2 : PH) (c2 s2 : Nat), c2 ≤ cells + 2 → s2 ≤ slots + 15 → J p l e room_1 s m args below meth c G 4 qf c2 s2 h2 1051 (lvL bs a1 a2 k) [] (K h2)) : J p l e room_1 s m args below meth c G 4 qf cells slots h 156 (lvL bs a1 a2 k) [] (bn (chk 9 a1 h) fun _ => bn2 (fX9_bar a1 (xs (k + 1)) (xs (k + 2)) (xs (k + 3)) h) fun r h1 => bn (chk 10 a2 h1) fun _ => bn2 (fX10_bar a2 (xs (k + 1)) (xs (k + 2)) (xs (k + 3)) h1) fun r2 h2 => if r = r2 then K h2 else none) := by
  refine J_aload_n (pc := 156) C dl_156 rfl 2 rfl ?_
  refine J_argC (pc := 157) C X hk 1 (by decide) (by decide) ad_157 ?_
  refine J_argC (pc := 162) C X hk 2 (by decide) (by decide) ad_162 ?_
  refine J_argC (pc := 167) C X hk 3 (by decide) (by decide) ad_167 ?_
  refine J_callVI (pc := 172) (As := [.int (xs (k + 1)), .int (xs (k + 2)), .int (xs (k + 3))]) (rest := []) C (fun z hz => mX9_bar a1 (xs (k + 1)) (xs (k + 2)) (xs (k + 3)) h z hz) mwX9_bar csX9_bar mqL_13 inX9_bar rfl dl_172 (by decide) rfl (Nat.le_of_ble_eq_true rfl) ⟨show cells + 2 ≤ 600000 by omega, show slots + 15 ≤ 7302250 by omega⟩ (fun r h1 => ?_)
  refine J_aload_n (pc := 175) C dl_175 rfl 1 rfl ?_
  refine J_argC (pc := 176) C X hk 1 (by decide) (by decide) ad_176 ?_
  refine J_argC (pc := 181) C X hk 2 (by decide) (by decide) ad_181 ?_
  refine J_argC (pc := 186) C X hk 3 (by decide) (by decide) ad_186 ?_
  refine J_callVI (pc := 191) (As := [.int (xs (k + 1)), .int (xs (k + 2)), .int (xs (k + 3))]) (rest := [.int r]) C (fun z hz => mX10_bar a2 (xs (k + 1)) (xs (k + 2)) (xs (k + 3)) h1 z hz) mwX10_bar csX10_bar mqL_17 inX10_bar rfl dl_191 (by decide) rfl (Nat.le_of_ble_eq_true rfl) ⟨show cells + 2 + 0 ≤ 600000 by omega, show slots + 15 + 0 ≤ 7302250 by omega⟩ (fun r2 h2 => ?_)
  exact J_icmp_eq (pc := 194) (tgt := 1051) C dl_194 (by decide) (kk h2 _ _ (show cells + 2 + 0 ≤ cells + 2 by omega) (show slots + 15 + 0 ≤ slots + 15 by omega)) (J_none C)
set_option maxHeartbeats 4000000 in
theorem arm_cut (C : Cx p s m args meth c G code 4 R_law) (X : SX G s bs L xs) (hk : k + 7 ≤ L) (hc : cells + 2 ≤ 600000) (hs : slots + 15 ≤ 7302250) {K : PH → Option (Unit × PH)} (kk : ∀ (h2 : PH) (c2 s2 : Nat), c2 ≤ cells + 2 → s2 ≤ slots + 15 → J p l e room_1 s m args below meth c G 4 qf c2 s2 h2 1051 (lvL bs a1 a2 k) [] (K h2)) : J p l e room_1 s m args below meth c G 4 qf cells slots h 199 (lvL bs a1 a2 k) [] (bn (chk 9 a1 h) fun _ => bn2 (fX9_cut a1 (xs (k + 1)) (xs (k + 2)) h) fun r h1 => bn (chk 10 a2 h1) fun _ => bn2 (fX10_cut a2 (xs (k + 1)) (xs (k + 2)) h1) fun r2 h2 => if r = r2 then K h2 else none) := by
  refine J_aload_n (pc := 199) C dl_199 rfl 2 rfl ?_
  refine J_argC (pc := 200) C X hk 1 (by decide) (by decide) ad_200 ?_
  refine J_argC (pc := 205) C X hk 2 (by decide) (by decide) ad_205 ?_
  refine J_callVI (pc := 210) (As := [.int (xs (k + 1)), .int (xs (k + 2))]) (rest := []) C (fun z hz => mX9_cut a1 (xs (k + 1)) (xs (k + 2)) h z hz) mwX9_cut csX9_cut mqL_18 inX9_cut rfl dl_210 (by decide) rfl (Nat.le_of_ble_eq_true rfl) ⟨show cells + 2 ≤ 600000 by omega, show slots + 15 ≤ 7302250 by omega⟩ (fun r h1 => ?_)
  refine J_aload_n (pc := 213) C dl_213 rfl 1 rfl ?_
  refine J_argC (pc := 214) C X hk 1 (by decide) (by decide) ad_214 ?_
  refine J_argC (pc := 219) C X hk 2 (by decide) (by decide) ad_219 ?_
  refine J_callVI (pc := 224) (As := [.int (xs (k + 1)), .int (xs (k + 2))]) (rest := [.int r]) C (fun z hz => mX10_cut a2 (xs (k + 1)) (xs (k + 2)) h1 z hz) mwX10_cut csX10_cut mqL_22 inX10_cut rfl dl_224 (by decide) rfl (Nat.le_of_ble_eq_true rfl) ⟨show cells + 2 + 0 ≤ 600000 by omega, show slots + 15 + 0 ≤ 7302250 by omega⟩ (fun r2 h2 => ?_)
  exact J_icmp_eq (pc := 227) (tgt := 1051) C dl_227 (by decide) (kk h2 _ _ (show cells + 2 + 0 ≤ cells + 2 by omega) (show slots + 15 + 0 ≤ slots + 15 by omega)) (J_none C)
set_option maxHeartbeats 4000000 in
theorem arm_melt (C : Cx p s m args meth c G code 4 R_law) (X : SX G s bs L xs) (hk : k + 7 ≤ L) (hc : cells + 2 ≤ 600000) (hs : slots + 15 ≤ 7302250) {K : PH → Option (Unit × PH)} (kk : ∀ (h2 : PH) (c2 s2 : Nat), c2 ≤ cells + 2 → s2 ≤ slots + 15 → J p l e room_1 s m args below meth c G 4 qf c2 s2 h2 1051 (lvL bs a1 a2 k) [] (K h2)) : J p l e room_1 s m args below meth c G 4 qf cells slots h 232 (lvL bs a1 a2 k) [] (bn (chk 9 a1 h) fun _ => bn2 (fX9_melt a1 (xs (k + 1)) (xs (k + 2)) h) fun r h1 => bn (chk 10 a2 h1) fun _ => bn2 (fX10_melt a2 (xs (k + 1)) (xs (k + 2)) h1) fun r2 h2 => if r = r2 then K h2 else none) := by
  refine J_aload_n (pc := 232) C dl_232 rfl 2 rfl ?_
  refine J_argC (pc := 233) C X hk 1 (by decide) (by decide) ad_233 ?_
  refine J_argC (pc := 238) C X hk 2 (by decide) (by decide) ad_238 ?_
  refine J_callVI (pc := 243) (As := [.int (xs (k + 1)), .int (xs (k + 2))]) (rest := []) C (fun z hz => mX9_melt a1 (xs (k + 1)) (xs (k + 2)) h z hz) mwX9_melt csX9_melt mqL_23 inX9_melt rfl dl_243 (by decide) rfl (Nat.le_of_ble_eq_true rfl) ⟨show cells + 0 ≤ 600000 by omega, show slots + 0 ≤ 7302250 by omega⟩ (fun r h1 => ?_)
  refine J_aload_n (pc := 246) C dl_246 rfl 1 rfl ?_
  refine J_argC (pc := 247) C X hk 1 (by decide) (by decide) ad_247 ?_
  refine J_argC (pc := 252) C X hk 2 (by decide) (by decide) ad_252 ?_
  refine J_callVI (pc := 257) (As := [.int (xs (k + 1)), .int (xs (k + 2))]) (rest := [.int r]) C (fun z hz => mX10_melt a2 (xs (k + 1)) (xs (k + 2)) h1 z hz) mwX10_melt csX10_melt mqL_26 inX10_melt rfl dl_257 (by decide) rfl (Nat.le_of_ble_eq_true rfl) ⟨show cells + 0 + 0 ≤ 600000 by omega, show slots + 0 + 0 ≤ 7302250 by omega⟩ (fun r2 h2 => ?_)
  exact J_icmp_eq (pc := 260) (tgt := 1051) C dl_260 (by decide) (kk h2 _ _ (show cells + 0 + 0 ≤ cells + 2 by omega) (show slots + 0 + 0 ≤ slots + 15 by omega)) (J_none C)
set_option maxHeartbeats 4000000 in
theorem arm_weight (C : Cx p s m args meth c G code 4 R_law) (X : SX G s bs L xs) (hk : k + 7 ≤ L) (hc : cells + 2 ≤ 600000) (hs : slots + 15 ≤ 7302250) {K : PH → Option (Unit × PH)} (kk : ∀ (h2 : PH) (c2 s2 : Nat), c2 ≤ cells + 2 → s2 ≤ slots + 15 → J p l e room_1 s m args below meth c G 4 qf c2 s2 h2 1051 (lvL bs a1 a2 k) [] (K h2)) : J p l e room_1 s m args below meth c G 4 qf cells slots h 265 (lvL bs a1 a2 k) [] (bn (chk 9 a1 h) fun _ => bn2 (fX9_weight a1 (xs (k + 1)) h) fun r h1 => bn (chk 10 a2 h1) fun _ => bn2 (fX10_weight a2 (xs (k + 1)) h1) fun r2 h2 => if r = r2 then K h2 else none) := by
  refine J_aload_n (pc := 265) C dl_265 rfl 2 rfl ?_
  refine J_argC (pc := 266) C X hk 1 (by decide) (by decide) ad_266 ?_
  refine J_callVI (pc := 271) (As := [.int (xs (k + 1))]) (rest := []) C (fun z hz => mX9_weight a1 (xs (k + 1)) h z hz) mwX9_weight csX9_weight mqL_27 inX9_weight rfl dl_271 (by decide) rfl (Nat.le_of_ble_eq_true rfl) ⟨show cells + 0 ≤ 600000 by omega, show slots + 0 ≤ 7302250 by omega⟩ (fun r h1 => ?_)
  refine J_aload_n (pc := 274) C dl_274 rfl 1 rfl ?_
  refine J_argC (pc := 275) C X hk 1 (by decide) (by decide) ad_275 ?_
  refine J_callVI (pc := 280) (As := [.int (xs (k + 1))]) (rest := [.int r]) C (fun z hz => mX10_weight a2 (xs (k + 1)) h1 z hz) mwX10_weight csX10_weight mqL_31 inX10_weight rfl dl_280 (by decide) rfl (Nat.le_of_ble_eq_true rfl) ⟨show cells + 0 + 0 ≤ 600000 by omega, show slots + 0 + 0 ≤ 7302250 by omega⟩ (fun r2 h2 => ?_)
  exact J_icmp_eq (pc := 283) (tgt := 1051) C dl_283 (by decide) (kk h2 _ _ (show cells + 0 + 0 ≤ cells + 2 by omega) (show slots + 0 + 0 ≤ slots + 15 by omega)) (J_none C)
set_option maxHeartbeats 4000000 in
theorem arm_from (C : Cx p s m args meth c G code 4 R_law) (X : SX G s bs L xs) (hk : k + 7 ≤ L) (hc : cells + 2 ≤ 600000) (hs : slots + 15 ≤ 7302250) {K : PH → Option (Unit × PH)} (kk : ∀ (h2 : PH) (c2 s2 : Nat), c2 ≤ cells + 2 → s2 ≤ slots + 15 → J p l e room_1 s m args below meth c G 4 qf c2 s2 h2 1051 (lvL bs a1 a2 k) [] (K h2)) : J p l e room_1 s m args below meth c G 4 qf cells slots h 288 (lvL bs a1 a2 k) [] (bn (chk 9 a1 h) fun _ => bn2 (fX9_from a1 (xs (k + 1)) (xs (k + 2)) h) fun r h1 => bn (chk 10 a2 h1) fun _ => bn2 (fX10_from a2 (xs (k + 1)) (xs (k + 2)) h1) fun r2 h2 => if r = r2 then K h2 else none) := by
  refine J_aload_n (pc := 288) C dl_288 rfl 2 rfl ?_
  refine J_argC (pc := 289) C X hk 1 (by decide) (by decide) ad_289 ?_
  refine J_argC (pc := 294) C X hk 2 (by decide) (by decide) ad_294 ?_
  refine J_callVI (pc := 299) (As := [.int (xs (k + 1)), .int (xs (k + 2))]) (rest := []) C (fun z hz => mX9_from a1 (xs (k + 1)) (xs (k + 2)) h z hz) mwX9_from csX9_from mqL_32 inX9_from rfl dl_299 (by decide) rfl (Nat.le_of_ble_eq_true rfl) ⟨show cells + 0 ≤ 600000 by omega, show slots + 0 ≤ 7302250 by omega⟩ (fun r h1 => ?_)
  refine J_aload_n (pc := 302) C dl_302 rfl 1 rfl ?_
  refine J_argC (pc := 303) C X hk 1 (by decide) (by decide) ad_303 ?_
  refine J_argC (pc := 308) C X hk 2 (by decide) (by decide) ad_308 ?_
  refine J_callVI (pc := 313) (As := [.int (xs (k + 1)), .int (xs (k + 2))]) (rest := [.int r]) C (fun z hz => mX10_from a2 (xs (k + 1)) (xs (k + 2)) h1 z hz) mwX10_from csX10_from mqL_35 inX10_from rfl dl_313 (by decide) rfl (Nat.le_of_ble_eq_true rfl) ⟨show cells + 0 + 0 ≤ 600000 by omega, show slots + 0 + 0 ≤ 7302250 by omega⟩ (fun r2 h2 => ?_)
  exact J_icmp_eq (pc := 316) (tgt := 1051) C dl_316 (by decide) (kk h2 _ _ (show cells + 0 + 0 ≤ cells + 2 by omega) (show slots + 0 + 0 ≤ slots + 15 by omega)) (J_none C)
set_option maxHeartbeats 4000000 in
theorem arm_part (C : Cx p s m args meth c G code 4 R_law) (X : SX G s bs L xs) (hk : k + 7 ≤ L) (hc : cells + 2 ≤ 600000) (hs : slots + 15 ≤ 7302250) {K : PH → Option (Unit × PH)} (kk : ∀ (h2 : PH) (c2 s2 : Nat), c2 ≤ cells + 2 → s2 ≤ slots + 15 → J p l e room_1 s m args below meth c G 4 qf c2 s2 h2 1051 (lvL bs a1 a2 k) [] (K h2)) : J p l e room_1 s m args below meth c G 4 qf cells slots h 321 (lvL bs a1 a2 k) [] (bn (chk 9 a1 h) fun _ => bn2 (fX9_part a1 (xs (k + 1)) (xs (k + 2)) h) fun r h1 => bn (chk 10 a2 h1) fun _ => bn2 (fX10_part a2 (xs (k + 1)) (xs (k + 2)) h1) fun r2 h2 => if r = r2 then K h2 else none) := by
  refine J_aload_n (pc := 321) C dl_321 rfl 2 rfl ?_
  refine J_argC (pc := 322) C X hk 1 (by decide) (by decide) ad_322 ?_
  refine J_argC (pc := 327) C X hk 2 (by decide) (by decide) ad_327 ?_
  refine J_callVJ (pc := 332) (As := [.int (xs (k + 1)), .int (xs (k + 2))]) (rest := []) C (fun z hz => mX9_part a1 (xs (k + 1)) (xs (k + 2)) h z hz) mwX9_part csX9_part mqL_36 inX9_part rfl dl_332 (by decide) rfl (Nat.le_of_ble_eq_true rfl) ⟨show cells + 0 ≤ 600000 by omega, show slots + 0 ≤ 7302250 by omega⟩ (fun r h1 => ?_)
  refine J_aload_n (pc := 335) C dl_335 rfl 1 rfl ?_
  refine J_argC (pc := 336) C X hk 1 (by decide) (by decide) ad_336 ?_
  refine J_argC (pc := 341) C X hk 2 (by decide) (by decide) ad_341 ?_
  refine J_callVJ (pc := 346) (As := [.int (xs (k + 1)), .int (xs (k + 2))]) (rest := [.long r]) C (fun z hz => mX10_part a2 (xs (k + 1)) (xs (k + 2)) h1 z hz) mwX10_part csX10_part mqL_40 inX10_part rfl dl_346 (by decide) rfl (Nat.le_of_ble_eq_true rfl) ⟨show cells + 0 + 0 ≤ 600000 by omega, show slots + 0 + 0 ≤ 7302250 by omega⟩ (fun r2 h2 => ?_)
  exact J_lcmp_eq (pc := 349) (tgt := 1051) C dl_349 dl_350 (by decide) (kk h2 _ _ (show cells + 0 + 0 ≤ cells + 2 by omega) (show slots + 0 + 0 ≤ slots + 15 by omega)) (J_none C)
set_option maxHeartbeats 4000000 in
theorem arm_feed (C : Cx p s m args meth c G code 4 R_law) (X : SX G s bs L xs) (hk : k + 7 ≤ L) (hc : cells + 2 ≤ 600000) (hs : slots + 15 ≤ 7302250) {K : PH → Option (Unit × PH)} (kk : ∀ (h2 : PH) (c2 s2 : Nat), c2 ≤ cells + 2 → s2 ≤ slots + 15 → J p l e room_1 s m args below meth c G 4 qf c2 s2 h2 1051 (lvL bs a1 a2 k) [] (K h2)) : J p l e room_1 s m args below meth c G 4 qf cells slots h 355 (lvL bs a1 a2 k) [] (bn (chk 9 a1 h) fun _ => bn2 (fX9_feed a1 (xs (k + 1)) (xs (k + 2)) (xs (k + 3)) (xs (k + 4)) (xs (k + 5)) h) fun r h1 => bn (chk 10 a2 h1) fun _ => bn2 (fX10_feed a2 (xs (k + 1)) (xs (k + 2)) (xs (k + 3)) (xs (k + 4)) (xs (k + 5)) h1) fun r2 h2 => if r = r2 then K h2 else none) := by
  refine J_aload_n (pc := 355) C dl_355 rfl 2 rfl ?_
  refine J_argC (pc := 356) C X hk 1 (by decide) (by decide) ad_356 ?_
  refine J_argC (pc := 361) C X hk 2 (by decide) (by decide) ad_361 ?_
  refine J_argC (pc := 366) C X hk 3 (by decide) (by decide) ad_366 ?_
  refine J_argC (pc := 371) C X hk 4 (by decide) (by decide) ad_371 ?_
  refine J_argC (pc := 376) C X hk 5 (by decide) (by decide) ad_376 ?_
  refine J_callVI (pc := 381) (As := [.int (xs (k + 1)), .int (xs (k + 2)), .int (xs (k + 3)), .int (xs (k + 4)), .int (xs (k + 5))]) (rest := []) C (fun z hz => mX9_feed a1 (xs (k + 1)) (xs (k + 2)) (xs (k + 3)) (xs (k + 4)) (xs (k + 5)) h z hz) mwX9_feed csX9_feed mqL_41 inX9_feed rfl dl_381 (by decide) rfl (Nat.le_of_ble_eq_true rfl) ⟨show cells + 0 ≤ 600000 by omega, show slots + 0 ≤ 7302250 by omega⟩ (fun r h1 => ?_)
  refine J_aload_n (pc := 384) C dl_384 rfl 1 rfl ?_
  refine J_argC (pc := 385) C X hk 1 (by decide) (by decide) ad_385 ?_
  refine J_argC (pc := 390) C X hk 2 (by decide) (by decide) ad_390 ?_
  refine J_argC (pc := 395) C X hk 3 (by decide) (by decide) ad_395 ?_
  refine J_argC (pc := 400) C X hk 4 (by decide) (by decide) ad_400 ?_
  refine J_argC (pc := 405) C X hk 5 (by decide) (by decide) ad_405 ?_
  refine J_callVI (pc := 410) (As := [.int (xs (k + 1)), .int (xs (k + 2)), .int (xs (k + 3)), .int (xs (k + 4)), .int (xs (k + 5))]) (rest := [.int r]) C (fun z hz => mX10_feed a2 (xs (k + 1)) (xs (k + 2)) (xs (k + 3)) (xs (k + 4)) (xs (k + 5)) h1 z hz) mwX10_feed csX10_feed mqL_45 inX10_feed rfl dl_410 (by decide) rfl (Nat.le_of_ble_eq_true rfl) ⟨show cells + 0 + 0 ≤ 600000 by omega, show slots + 0 + 0 ≤ 7302250 by omega⟩ (fun r2 h2 => ?_)
  exact J_icmp_eq (pc := 413) (tgt := 1051) C dl_413 (by decide) (kk h2 _ _ (show cells + 0 + 0 ≤ cells + 2 by omega) (show slots + 0 + 0 ≤ slots + 15 by omega)) (J_none C)
set_option maxHeartbeats 4000000 in
theorem arm_end (C : Cx p s m args meth c G code 4 R_law) (X : SX G s bs L xs) (hk : k + 7 ≤ L) (hc : cells + 2 ≤ 600000) (hs : slots + 15 ≤ 7302250) {K : PH → Option (Unit × PH)} (kk : ∀ (h2 : PH) (c2 s2 : Nat), c2 ≤ cells + 2 → s2 ≤ slots + 15 → J p l e room_1 s m args below meth c G 4 qf c2 s2 h2 1051 (lvL bs a1 a2 k) [] (K h2)) : J p l e room_1 s m args below meth c G 4 qf cells slots h 418 (lvL bs a1 a2 k) [] (bn (chk 9 a1 h) fun _ => bn2 (fX9_end a1 (xs (k + 1)) h) fun r h1 => bn (chk 10 a2 h1) fun _ => bn2 (fX10_end a2 (xs (k + 1)) h1) fun r2 h2 => if r = r2 then K h2 else none) := by
  refine J_aload_n (pc := 418) C dl_418 rfl 2 rfl ?_
  refine J_argC (pc := 419) C X hk 1 (by decide) (by decide) ad_419 ?_
  refine J_callVI (pc := 424) (As := [.int (xs (k + 1))]) (rest := []) C (fun z hz => mX9_end a1 (xs (k + 1)) h z hz) mwX9_end csX9_end mqL_46 inX9_end rfl dl_424 (by decide) rfl (Nat.le_of_ble_eq_true rfl) ⟨show cells + 0 ≤ 600000 by omega, show slots + 0 ≤ 7302250 by omega⟩ (fun r h1 => ?_)
  refine J_aload_n (pc := 427) C dl_427 rfl 1 rfl ?_
  refine J_argC (pc := 428) C X hk 1 (by decide) (by decide) ad_428 ?_
  refine J_callVI (pc := 433) (As := [.int (xs (k + 1))]) (rest := [.int r]) C (fun z hz => mX10_end a2 (xs (k + 1)) h1 z hz) mwX10_end csX10_end mqL_49 inX10_end rfl dl_433 (by decide) rfl (Nat.le_of_ble_eq_true rfl) ⟨show cells + 0 + 0 ≤ 600000 by omega, show slots + 0 + 0 ≤ 7302250 by omega⟩ (fun r2 h2 => ?_)
  exact J_icmp_eq (pc := 436) (tgt := 1051) C dl_436 (by decide) (kk h2 _ _ (show cells + 0 + 0 ≤ cells + 2 by omega) (show slots + 0 + 0 ≤ slots + 15 by omega)) (J_none C)
set_option maxHeartbeats 4000000 in
theorem arm_colours (C : Cx p s m args meth c G code 4 R_law) (X : SX G s bs L xs) (hk : k + 7 ≤ L) (hc : cells + 2 ≤ 600000) (hs : slots + 15 ≤ 7302250) {K : PH → Option (Unit × PH)} (kk : ∀ (h2 : PH) (c2 s2 : Nat), c2 ≤ cells + 2 → s2 ≤ slots + 15 → J p l e room_1 s m args below meth c G 4 qf c2 s2 h2 1051 (lvL bs a1 a2 k) [] (K h2)) : J p l e room_1 s m args below meth c G 4 qf cells slots h 441 (lvL bs a1 a2 k) [] (bn (chk 9 a1 h) fun _ => bn2 (fX9_colours a1 h) fun r h1 => bn (chk 10 a2 h1) fun _ => bn2 (fX10_colours a2 h1) fun r2 h2 => if r = r2 then K h2 else none) := by
  refine J_aload_n (pc := 441) C dl_441 rfl 2 rfl ?_
  refine J_callVI (pc := 442) (As := []) (rest := []) C (fun z hz => mX9_colours a1 h z hz) mwX9_colours csX9_colours mqL_50 inX9_colours rfl dl_442 (by decide) rfl (Nat.le_of_ble_eq_true rfl) ⟨show cells + 0 ≤ 600000 by omega, show slots + 0 ≤ 7302250 by omega⟩ (fun r h1 => ?_)
  refine J_aload_n (pc := 445) C dl_445 rfl 1 rfl ?_
  refine J_callVI (pc := 446) (As := []) (rest := [.int r]) C (fun z hz => mX10_colours a2 h1 z hz) mwX10_colours csX10_colours mqL_54 inX10_colours rfl dl_446 (by decide) rfl (Nat.le_of_ble_eq_true rfl) ⟨show cells + 0 + 0 ≤ 600000 by omega, show slots + 0 + 0 ≤ 7302250 by omega⟩ (fun r2 h2 => ?_)
  exact J_icmp_eq (pc := 449) (tgt := 1051) C dl_449 (by decide) (kk h2 _ _ (show cells + 0 + 0 ≤ cells + 2 by omega) (show slots + 0 + 0 ≤ slots + 15 by omega)) (J_none C)
set_option maxHeartbeats 4000000 in
theorem arm_fault (C : Cx p s m args meth c G code 4 R_law) (X : SX G s bs L xs) (hk : k + 7 ≤ L) (hc : cells + 2 ≤ 600000) (hs : slots + 15 ≤ 7302250) {K : PH → Option (Unit × PH)} (kk : ∀ (h2 : PH) (c2 s2 : Nat), c2 ≤ cells + 2 → s2 ≤ slots + 15 → J p l e room_1 s m args below meth c G 4 qf c2 s2 h2 1051 (lvL bs a1 a2 k) [] (K h2)) : J p l e room_1 s m args below meth c G 4 qf cells slots h 454 (lvL bs a1 a2 k) [] (bn (chk 9 a1 h) fun _ => bn2 (fX9_fault a1 h) fun r h1 => bn (chk 10 a2 h1) fun _ => bn2 (fX10_fault a2 h1) fun r2 h2 => if r = r2 then K h2 else none) := by
  refine J_aload_n (pc := 454) C dl_454 rfl 2 rfl ?_
  refine J_callVI (pc := 455) (As := []) (rest := []) C (fun z hz => mX9_fault a1 h z hz) mwX9_fault csX9_fault mqL_55 inX9_fault rfl dl_455 (by decide) rfl (Nat.le_of_ble_eq_true rfl) ⟨show cells + 0 ≤ 600000 by omega, show slots + 0 ≤ 7302250 by omega⟩ (fun r h1 => ?_)
  refine J_aload_n (pc := 458) C dl_458 rfl 1 rfl ?_
  refine J_callVI (pc := 459) (As := []) (rest := [.int r]) C (fun z hz => mX10_fault a2 h1 z hz) mwX10_fault csX10_fault mqL_58 inX10_fault rfl dl_459 (by decide) rfl (Nat.le_of_ble_eq_true rfl) ⟨show cells + 0 + 0 ≤ 600000 by omega, show slots + 0 + 0 ≤ 7302250 by omega⟩ (fun r2 h2 => ?_)
  exact J_icmp_eq (pc := 462) (tgt := 1051) C dl_462 (by decide) (kk h2 _ _ (show cells + 0 + 0 ≤ cells + 2 by omega) (show slots + 0 + 0 ≤ slots + 15 by omega)) (J_none C)
set_option maxHeartbeats 4000000 in
theorem arm_colour (C : Cx p s m args meth c G code 4 R_law) (X : SX G s bs L xs) (hk : k + 7 ≤ L) (hc : cells + 2 ≤ 600000) (hs : slots + 15 ≤ 7302250) {K : PH → Option (Unit × PH)} (kk : ∀ (h2 : PH) (c2 s2 : Nat), c2 ≤ cells + 2 → s2 ≤ slots + 15 → J p l e room_1 s m args below meth c G 4 qf c2 s2 h2 1051 (lvL bs a1 a2 k) [] (K h2)) : J p l e room_1 s m args below meth c G 4 qf cells slots h 467 (lvL bs a1 a2 k) [] (bn (chk 9 a1 h) fun _ => bn2 (fX9_colour a1 (xs (k + 1)) h) fun r h1 => bn (chk 10 a2 h1) fun _ => bn2 (fX10_colour a2 (xs (k + 1)) h1) fun r2 h2 => if r = r2 then K h2 else none) := by
  refine J_aload_n (pc := 467) C dl_467 rfl 2 rfl ?_
  refine J_argC (pc := 468) C X hk 1 (by decide) (by decide) ad_468 ?_
  refine J_callVI (pc := 473) (As := [.int (xs (k + 1))]) (rest := []) C (fun z hz => mX9_colour a1 (xs (k + 1)) h z hz) mwX9_colour csX9_colour mqL_59 inX9_colour rfl dl_473 (by decide) rfl (Nat.le_of_ble_eq_true rfl) ⟨show cells + 0 ≤ 600000 by omega, show slots + 0 ≤ 7302250 by omega⟩ (fun r h1 => ?_)
  refine J_aload_n (pc := 476) C dl_476 rfl 1 rfl ?_
  refine J_argC (pc := 477) C X hk 1 (by decide) (by decide) ad_477 ?_
  refine J_callVI (pc := 482) (As := [.int (xs (k + 1))]) (rest := [.int r]) C (fun z hz => mX10_colour a2 (xs (k + 1)) h1 z hz) mwX10_colour csX10_colour mqL_62 inX10_colour rfl dl_482 (by decide) rfl (Nat.le_of_ble_eq_true rfl) ⟨show cells + 0 + 0 ≤ 600000 by omega, show slots + 0 + 0 ≤ 7302250 by omega⟩ (fun r2 h2 => ?_)
  exact J_icmp_eq (pc := 485) (tgt := 1051) C dl_485 (by decide) (kk h2 _ _ (show cells + 0 + 0 ≤ cells + 2 by omega) (show slots + 0 + 0 ≤ slots + 15 by omega)) (J_none C)
set_option maxHeartbeats 4000000 in
theorem arm_skin (C : Cx p s m args meth c G code 4 R_law) (X : SX G s bs L xs) (hk : k + 7 ≤ L) (hc : cells + 2 ≤ 600000) (hs : slots + 15 ≤ 7302250) {K : PH → Option (Unit × PH)} (kk : ∀ (h2 : PH) (c2 s2 : Nat), c2 ≤ cells + 2 → s2 ≤ slots + 15 → J p l e room_1 s m args below meth c G 4 qf c2 s2 h2 1051 (lvL bs a1 a2 k) [] (K h2)) : J p l e room_1 s m args below meth c G 4 qf cells slots h 490 (lvL bs a1 a2 k) [] (bn (chk 9 a1 h) fun _ => bn2 (fX9_skin a1 (xs (k + 1)) h) fun r h1 => bn (chk 10 a2 h1) fun _ => bn2 (fX10_skin a2 (xs (k + 1)) h1) fun r2 h2 => if r = r2 then K h2 else none) := by
  refine J_aload_n (pc := 490) C dl_490 rfl 2 rfl ?_
  refine J_argC (pc := 491) C X hk 1 (by decide) (by decide) ad_491 ?_
  refine J_callVI (pc := 496) (As := [.int (xs (k + 1))]) (rest := []) C (fun z hz => mX9_skin a1 (xs (k + 1)) h z hz) mwX9_skin csX9_skin mqL_63 inX9_skin rfl dl_496 (by decide) rfl (Nat.le_of_ble_eq_true rfl) ⟨show cells + 0 ≤ 600000 by omega, show slots + 0 ≤ 7302250 by omega⟩ (fun r h1 => ?_)
  refine J_aload_n (pc := 499) C dl_499 rfl 1 rfl ?_
  refine J_argC (pc := 500) C X hk 1 (by decide) (by decide) ad_500 ?_
  refine J_callVI (pc := 505) (As := [.int (xs (k + 1))]) (rest := [.int r]) C (fun z hz => mX10_skin a2 (xs (k + 1)) h1 z hz) mwX10_skin csX10_skin mqL_66 inX10_skin rfl dl_505 (by decide) rfl (Nat.le_of_ble_eq_true rfl) ⟨show cells + 0 + 0 ≤ 600000 by omega, show slots + 0 + 0 ≤ 7302250 by omega⟩ (fun r2 h2 => ?_)
  exact J_icmp_eq (pc := 508) (tgt := 1051) C dl_508 (by decide) (kk h2 _ _ (show cells + 0 + 0 ≤ cells + 2 by omega) (show slots + 0 + 0 ≤ slots + 15 by omega)) (J_none C)
set_option maxHeartbeats 4000000 in
theorem arm_dry (C : Cx p s m args meth c G code 4 R_law) (X : SX G s bs L xs) (hk : k + 7 ≤ L) (hc : cells + 2 ≤ 600000) (hs : slots + 15 ≤ 7302250) {K : PH → Option (Unit × PH)} (kk : ∀ (h2 : PH) (c2 s2 : Nat), c2 ≤ cells + 2 → s2 ≤ slots + 15 → J p l e room_1 s m args below meth c G 4 qf c2 s2 h2 1051 (lvL bs a1 a2 k) [] (K h2)) : J p l e room_1 s m args below meth c G 4 qf cells slots h 513 (lvL bs a1 a2 k) [] (bn (chk 9 a1 h) fun _ => bn2 (fX9_dry a1 (xs (k + 1)) (xs (k + 2)) h) fun r h1 => bn (chk 10 a2 h1) fun _ => bn2 (fX10_dry a2 (xs (k + 1)) (xs (k + 2)) h1) fun r2 h2 => if r = r2 then K h2 else none) := by
  refine J_aload_n (pc := 513) C dl_513 rfl 2 rfl ?_
  refine J_argC (pc := 514) C X hk 1 (by decide) (by decide) ad_514 ?_
  refine J_argC (pc := 519) C X hk 2 (by decide) (by decide) ad_519 ?_
  refine J_callVI (pc := 524) (As := [.int (xs (k + 1)), .int (xs (k + 2))]) (rest := []) C (fun z hz => mX9_dry a1 (xs (k + 1)) (xs (k + 2)) h z hz) mwX9_dry csX9_dry mqL_67 inX9_dry rfl dl_524 (by decide) rfl (Nat.le_of_ble_eq_true rfl) ⟨show cells + 0 ≤ 600000 by omega, show slots + 0 ≤ 7302250 by omega⟩ (fun r h1 => ?_)
  refine J_aload_n (pc := 527) C dl_527 rfl 1 rfl ?_
  refine J_argC (pc := 528) C X hk 1 (by decide) (by decide) ad_528 ?_
  refine J_argC (pc := 533) C X hk 2 (by decide) (by decide) ad_533 ?_
  refine J_callVI (pc := 538) (As := [.int (xs (k + 1)), .int (xs (k + 2))]) (rest := [.int r]) C (fun z hz => mX10_dry a2 (xs (k + 1)) (xs (k + 2)) h1 z hz) mwX10_dry csX10_dry mqL_70 inX10_dry rfl dl_538 (by decide) rfl (Nat.le_of_ble_eq_true rfl) ⟨show cells + 0 + 0 ≤ 600000 by omega, show slots + 0 + 0 ≤ 7302250 by omega⟩ (fun r2 h2 => ?_)
  exact J_icmp_eq (pc := 541) (tgt := 1051) C dl_541 (by decide) (kk h2 _ _ (show cells + 0 + 0 ≤ cells + 2 by omega) (show slots + 0 + 0 ≤ slots + 15 by omega)) (J_none C)
set_option maxHeartbeats 4000000 in
theorem arm_age (C : Cx p s m args meth c G code 4 R_law) (X : SX G s bs L xs) (hk : k + 7 ≤ L) (hc : cells + 2 ≤ 600000) (hs : slots + 15 ≤ 7302250) {K : PH → Option (Unit × PH)} (kk : ∀ (h2 : PH) (c2 s2 : Nat), c2 ≤ cells + 2 → s2 ≤ slots + 15 → J p l e room_1 s m args below meth c G 4 qf c2 s2 h2 1051 (lvL bs a1 a2 k) [] (K h2)) : J p l e room_1 s m args below meth c G 4 qf cells slots h 546 (lvL bs a1 a2 k) [] (bn (chk 9 a1 h) fun _ => bn2 (fX9_age a1 (xs (k + 1)) h) fun r h1 => bn (chk 10 a2 h1) fun _ => bn2 (fX10_age a2 (xs (k + 1)) h1) fun r2 h2 => if r = r2 then K h2 else none) := by
  refine J_aload_n (pc := 546) C dl_546 rfl 2 rfl ?_
  refine J_argC (pc := 547) C X hk 1 (by decide) (by decide) ad_547 ?_
  refine J_callVI (pc := 552) (As := [.int (xs (k + 1))]) (rest := []) C (fun z hz => mX9_age a1 (xs (k + 1)) h z hz) mwX9_age csX9_age mqL_71 inX9_age rfl dl_552 (by decide) rfl (Nat.le_of_ble_eq_true rfl) ⟨show cells + 0 ≤ 600000 by omega, show slots + 0 ≤ 7302250 by omega⟩ (fun r h1 => ?_)
  refine J_aload_n (pc := 555) C dl_555 rfl 1 rfl ?_
  refine J_argC (pc := 556) C X hk 1 (by decide) (by decide) ad_556 ?_
  refine J_callVI (pc := 561) (As := [.int (xs (k + 1))]) (rest := [.int r]) C (fun z hz => mX10_age a2 (xs (k + 1)) h1 z hz) mwX10_age csX10_age mqL_74 inX10_age rfl dl_561 (by decide) rfl (Nat.le_of_ble_eq_true rfl) ⟨show cells + 0 + 0 ≤ 600000 by omega, show slots + 0 + 0 ≤ 7302250 by omega⟩ (fun r2 h2 => ?_)
  exact J_icmp_eq (pc := 564) (tgt := 1051) C dl_564 (by decide) (kk h2 _ _ (show cells + 0 + 0 ≤ cells + 2 by omega) (show slots + 0 + 0 ≤ slots + 15 by omega)) (J_none C)
set_option maxHeartbeats 4000000 in
theorem arm_pack (C : Cx p s m args meth c G code 4 R_law) (X : SX G s bs L xs) (hk : k + 7 ≤ L) (hc : cells + 2 ≤ 600000) (hs : slots + 15 ≤ 7302250) {K : PH → Option (Unit × PH)} (kk : ∀ (h2 : PH) (c2 s2 : Nat), c2 ≤ cells + 2 → s2 ≤ slots + 15 → J p l e room_1 s m args below meth c G 4 qf c2 s2 h2 1051 (lvL bs a1 a2 k) [] (K h2)) : J p l e room_1 s m args below meth c G 4 qf cells slots h 569 (lvL bs a1 a2 k) [] (bn (chk 9 a1 h) fun _ => bn2 (fX9_pack a1 (xs (k + 1)) (xs (k + 2)) (xs (k + 3)) (xs (k + 4)) (xs (k + 5)) (xs (k + 6)) h) fun r h1 => bn (chk 10 a2 h1) fun _ => bn2 (fX10_pack a2 (xs (k + 1)) (xs (k + 2)) (xs (k + 3)) (xs (k + 4)) (xs (k + 5)) (xs (k + 6)) h1) fun r2 h2 => if r = r2 then K h2 else none) := by
  refine J_aload_n (pc := 569) C dl_569 rfl 2 rfl ?_
  refine J_argC (pc := 570) C X hk 1 (by decide) (by decide) ad_570 ?_
  refine J_argC (pc := 575) C X hk 2 (by decide) (by decide) ad_575 ?_
  refine J_argC (pc := 580) C X hk 3 (by decide) (by decide) ad_580 ?_
  refine J_argC (pc := 585) C X hk 4 (by decide) (by decide) ad_585 ?_
  refine J_argC (pc := 590) C X hk 5 (by decide) (by decide) ad_590 ?_
  refine J_argB (pc := 595) C X hk 6 (by decide) (by decide) ad_595 ?_
  refine J_callVI (pc := 601) (As := [.int (xs (k + 1)), .int (xs (k + 2)), .int (xs (k + 3)), .int (xs (k + 4)), .int (xs (k + 5)), .int (xs (k + 6))]) (rest := []) C (fun z hz => mX9_pack a1 (xs (k + 1)) (xs (k + 2)) (xs (k + 3)) (xs (k + 4)) (xs (k + 5)) (xs (k + 6)) h z hz) mwX9_pack csX9_pack mqL_75 inX9_pack rfl dl_601 (by decide) rfl (Nat.le_of_ble_eq_true rfl) ⟨show cells + 0 ≤ 600000 by omega, show slots + 0 ≤ 7302250 by omega⟩ (fun r h1 => ?_)
  refine J_aload_n (pc := 604) C dl_604 rfl 1 rfl ?_
  refine J_argC (pc := 605) C X hk 1 (by decide) (by decide) ad_605 ?_
  refine J_argC (pc := 610) C X hk 2 (by decide) (by decide) ad_610 ?_
  refine J_argC (pc := 615) C X hk 3 (by decide) (by decide) ad_615 ?_
  refine J_argC (pc := 620) C X hk 4 (by decide) (by decide) ad_620 ?_
  refine J_argC (pc := 625) C X hk 5 (by decide) (by decide) ad_625 ?_
  refine J_argB (pc := 630) C X hk 6 (by decide) (by decide) ad_630 ?_
  refine J_callVI (pc := 636) (As := [.int (xs (k + 1)), .int (xs (k + 2)), .int (xs (k + 3)), .int (xs (k + 4)), .int (xs (k + 5)), .int (xs (k + 6))]) (rest := [.int r]) C (fun z hz => mX10_pack a2 (xs (k + 1)) (xs (k + 2)) (xs (k + 3)) (xs (k + 4)) (xs (k + 5)) (xs (k + 6)) h1 z hz) mwX10_pack csX10_pack mqL_79 inX10_pack rfl dl_636 (by decide) rfl (Nat.le_of_ble_eq_true rfl) ⟨show cells + 0 + 0 ≤ 600000 by omega, show slots + 0 + 0 ≤ 7302250 by omega⟩ (fun r2 h2 => ?_)
  exact J_icmp_eq (pc := 639) (tgt := 1051) C dl_639 (by decide) (kk h2 _ _ (show cells + 0 + 0 ≤ cells + 2 by omega) (show slots + 0 + 0 ≤ slots + 15 by omega)) (J_none C)
set_option maxHeartbeats 4000000 in
theorem arm_beat (C : Cx p s m args meth c G code 4 R_law) (X : SX G s bs L xs) (hk : k + 7 ≤ L) (hc : cells + 2 ≤ 600000) (hs : slots + 15 ≤ 7302250) {K : PH → Option (Unit × PH)} (kk : ∀ (h2 : PH) (c2 s2 : Nat), c2 ≤ cells + 2 → s2 ≤ slots + 15 → J p l e room_1 s m args below meth c G 4 qf c2 s2 h2 1051 (lvL bs a1 a2 k) [] (K h2)) : J p l e room_1 s m args below meth c G 4 qf cells slots h 644 (lvL bs a1 a2 k) [] (bn (chk 9 a1 h) fun _ => bn2 (fX9_beat a1 (xs (k + 1)) (xs (k + 2)) h) fun r h1 => bn (chk 10 a2 h1) fun _ => bn2 (fX10_beat a2 (xs (k + 1)) (xs (k + 2)) h1) fun r2 h2 => if r = r2 then K h2 else none) := by
  refine J_aload_n (pc := 644) C dl_644 rfl 2 rfl ?_
  refine J_argC (pc := 645) C X hk 1 (by decide) (by decide) ad_645 ?_
  refine J_argC (pc := 650) C X hk 2 (by decide) (by decide) ad_650 ?_
  refine J_callVI (pc := 655) (As := [.int (xs (k + 1)), .int (xs (k + 2))]) (rest := []) C (fun z hz => mX9_beat a1 (xs (k + 1)) (xs (k + 2)) h z hz) mwX9_beat csX9_beat mqL_80 inX9_beat rfl dl_655 (by decide) rfl (Nat.le_of_ble_eq_true rfl) ⟨show cells + 0 ≤ 600000 by omega, show slots + 0 ≤ 7302250 by omega⟩ (fun r h1 => ?_)
  refine J_aload_n (pc := 658) C dl_658 rfl 1 rfl ?_
  refine J_argC (pc := 659) C X hk 1 (by decide) (by decide) ad_659 ?_
  refine J_argC (pc := 664) C X hk 2 (by decide) (by decide) ad_664 ?_
  refine J_callVI (pc := 669) (As := [.int (xs (k + 1)), .int (xs (k + 2))]) (rest := [.int r]) C (fun z hz => mX10_beat a2 (xs (k + 1)) (xs (k + 2)) h1 z hz) mwX10_beat csX10_beat mqL_83 inX10_beat rfl dl_669 (by decide) rfl (Nat.le_of_ble_eq_true rfl) ⟨show cells + 0 + 0 ≤ 600000 by omega, show slots + 0 + 0 ≤ 7302250 by omega⟩ (fun r2 h2 => ?_)
  exact J_icmp_eq (pc := 672) (tgt := 1051) C dl_672 (by decide) (kk h2 _ _ (show cells + 0 + 0 ≤ cells + 2 by omega) (show slots + 0 + 0 ≤ slots + 15 by omega)) (J_none C)
set_option maxHeartbeats 4000000 in
theorem arm_leaf (C : Cx p s m args meth c G code 4 R_law) (X : SX G s bs L xs) (hk : k + 7 ≤ L) (hc : cells + 2 ≤ 600000) (hs : slots + 15 ≤ 7302250) {K : PH → Option (Unit × PH)} (kk : ∀ (h2 : PH) (c2 s2 : Nat), c2 ≤ cells + 2 → s2 ≤ slots + 15 → J p l e room_1 s m args below meth c G 4 qf c2 s2 h2 1051 (lvL bs a1 a2 k) [] (K h2)) : J p l e room_1 s m args below meth c G 4 qf cells slots h 677 (lvL bs a1 a2 k) [] (bn (chk 9 a1 h) fun _ => bn2 (fX9_leaf a1 (xs (k + 1)) (xs (k + 2)) h) fun r h1 => bn (chk 10 a2 h1) fun _ => bn2 (fX10_leaf a2 (xs (k + 1)) (xs (k + 2)) h1) fun r2 h2 => if r = r2 then K h2 else none) := by
  refine J_aload_n (pc := 677) C dl_677 rfl 2 rfl ?_
  refine J_argC (pc := 678) C X hk 1 (by decide) (by decide) ad_678 ?_
  refine J_argC (pc := 683) C X hk 2 (by decide) (by decide) ad_683 ?_
  refine J_callVI (pc := 688) (As := [.int (xs (k + 1)), .int (xs (k + 2))]) (rest := []) C (fun z hz => mX9_leaf a1 (xs (k + 1)) (xs (k + 2)) h z hz) mwX9_leaf csX9_leaf mqL_84 inX9_leaf rfl dl_688 (by decide) rfl (Nat.le_of_ble_eq_true rfl) ⟨show cells + 0 ≤ 600000 by omega, show slots + 0 ≤ 7302250 by omega⟩ (fun r h1 => ?_)
  refine J_aload_n (pc := 691) C dl_691 rfl 1 rfl ?_
  refine J_argC (pc := 692) C X hk 1 (by decide) (by decide) ad_692 ?_
  refine J_argC (pc := 697) C X hk 2 (by decide) (by decide) ad_697 ?_
  refine J_callVI (pc := 702) (As := [.int (xs (k + 1)), .int (xs (k + 2))]) (rest := [.int r]) C (fun z hz => mX10_leaf a2 (xs (k + 1)) (xs (k + 2)) h1 z hz) mwX10_leaf csX10_leaf mqL_87 inX10_leaf rfl dl_702 (by decide) rfl (Nat.le_of_ble_eq_true rfl) ⟨show cells + 0 + 0 ≤ 600000 by omega, show slots + 0 + 0 ≤ 7302250 by omega⟩ (fun r2 h2 => ?_)
  exact J_icmp_eq (pc := 705) (tgt := 1051) C dl_705 (by decide) (kk h2 _ _ (show cells + 0 + 0 ≤ cells + 2 by omega) (show slots + 0 + 0 ≤ slots + 15 by omega)) (J_none C)
set_option maxHeartbeats 4000000 in
theorem arm_flatter (C : Cx p s m args meth c G code 4 R_law) (X : SX G s bs L xs) (hk : k + 7 ≤ L) (hc : cells + 2 ≤ 600000) (hs : slots + 15 ≤ 7302250) {K : PH → Option (Unit × PH)} (kk : ∀ (h2 : PH) (c2 s2 : Nat), c2 ≤ cells + 2 → s2 ≤ slots + 15 → J p l e room_1 s m args below meth c G 4 qf c2 s2 h2 1051 (lvL bs a1 a2 k) [] (K h2)) : J p l e room_1 s m args below meth c G 4 qf cells slots h 710 (lvL bs a1 a2 k) [] (bn (chk 9 a1 h) fun _ => bn2 (fX9_flatter a1 (xs (k + 1)) (xs (k + 2)) h) fun r h1 => bn (chk 10 a2 h1) fun _ => bn2 (fX10_flatter a2 (xs (k + 1)) (xs (k + 2)) h1) fun r2 h2 => if r = r2 then K h2 else none) := by
  refine J_aload_n (pc := 710) C dl_710 rfl 2 rfl ?_
  refine J_argC (pc := 711) C X hk 1 (by decide) (by decide) ad_711 ?_
  refine J_argC (pc := 716) C X hk 2 (by decide) (by decide) ad_716 ?_
  refine J_callVI (pc := 721) (As := [.int (xs (k + 1)), .int (xs (k + 2))]) (rest := []) C (fun z hz => mX9_flatter a1 (xs (k + 1)) (xs (k + 2)) h z hz) mwX9_flatter csX9_flatter mqL_88 inX9_flatter rfl dl_721 (by decide) rfl (Nat.le_of_ble_eq_true rfl) ⟨show cells + 0 ≤ 600000 by omega, show slots + 0 ≤ 7302250 by omega⟩ (fun r h1 => ?_)
  refine J_aload_n (pc := 724) C dl_724 rfl 1 rfl ?_
  refine J_argC (pc := 725) C X hk 1 (by decide) (by decide) ad_725 ?_
  refine J_argC (pc := 730) C X hk 2 (by decide) (by decide) ad_730 ?_
  refine J_callVI (pc := 735) (As := [.int (xs (k + 1)), .int (xs (k + 2))]) (rest := [.int r]) C (fun z hz => mX10_flatter a2 (xs (k + 1)) (xs (k + 2)) h1 z hz) mwX10_flatter csX10_flatter mqL_91 inX10_flatter rfl dl_735 (by decide) rfl (Nat.le_of_ble_eq_true rfl) ⟨show cells + 0 + 0 ≤ 600000 by omega, show slots + 0 + 0 ≤ 7302250 by omega⟩ (fun r2 h2 => ?_)
  exact J_icmp_eq (pc := 738) (tgt := 1051) C dl_738 (by decide) (kk h2 _ _ (show cells + 0 + 0 ≤ cells + 2 by omega) (show slots + 0 + 0 ≤ slots + 15 by omega)) (J_none C)
set_option maxHeartbeats 4000000 in
theorem arm_bind (C : Cx p s m args meth c G code 4 R_law) (X : SX G s bs L xs) (hk : k + 7 ≤ L) (hc : cells + 2 ≤ 600000) (hs : slots + 15 ≤ 7302250) {K : PH → Option (Unit × PH)} (kk : ∀ (h2 : PH) (c2 s2 : Nat), c2 ≤ cells + 2 → s2 ≤ slots + 15 → J p l e room_1 s m args below meth c G 4 qf c2 s2 h2 1051 (lvL bs a1 a2 k) [] (K h2)) : J p l e room_1 s m args below meth c G 4 qf cells slots h 743 (lvL bs a1 a2 k) [] (bn (chk 9 a1 h) fun _ => bn2 (fX9_bind a1 (xs (k + 1)) h) fun r h1 => bn (chk 10 a2 h1) fun _ => bn2 (fX10_bind a2 (xs (k + 1)) h1) fun r2 h2 => if r = r2 then K h2 else none) := by
  refine J_aload_n (pc := 743) C dl_743 rfl 2 rfl ?_
  refine J_argC (pc := 744) C X hk 1 (by decide) (by decide) ad_744 ?_
  refine J_callVI (pc := 749) (As := [.int (xs (k + 1))]) (rest := []) C (fun z hz => mX9_bind a1 (xs (k + 1)) h z hz) mwX9_bind csX9_bind mqL_92 inX9_bind rfl dl_749 (by decide) rfl (Nat.le_of_ble_eq_true rfl) ⟨show cells + 0 ≤ 600000 by omega, show slots + 0 ≤ 7302250 by omega⟩ (fun r h1 => ?_)
  refine J_aload_n (pc := 752) C dl_752 rfl 1 rfl ?_
  refine J_argC (pc := 753) C X hk 1 (by decide) (by decide) ad_753 ?_
  refine J_callVI (pc := 758) (As := [.int (xs (k + 1))]) (rest := [.int r]) C (fun z hz => mX10_bind a2 (xs (k + 1)) h1 z hz) mwX10_bind csX10_bind mqL_95 inX10_bind rfl dl_758 (by decide) rfl (Nat.le_of_ble_eq_true rfl) ⟨show cells + 0 + 0 ≤ 600000 by omega, show slots + 0 + 0 ≤ 7302250 by omega⟩ (fun r2 h2 => ?_)
  exact J_icmp_eq (pc := 761) (tgt := 1051) C dl_761 (by decide) (kk h2 _ _ (show cells + 0 + 0 ≤ cells + 2 by omega) (show slots + 0 + 0 ≤ slots + 15 by omega)) (J_none C)
set_option maxHeartbeats 4000000 in
theorem arm_book (C : Cx p s m args meth c G code 4 R_law) (X : SX G s bs L xs) (hk : k + 7 ≤ L) (hc : cells + 2 ≤ 600000) (hs : slots + 15 ≤ 7302250) {K : PH → Option (Unit × PH)} (kk : ∀ (h2 : PH) (c2 s2 : Nat), c2 ≤ cells + 2 → s2 ≤ slots + 15 → J p l e room_1 s m args below meth c G 4 qf c2 s2 h2 1051 (lvL bs a1 a2 k) [] (K h2)) : J p l e room_1 s m args below meth c G 4 qf cells slots h 766 (lvL bs a1 a2 k) [] (bn (chk 9 a1 h) fun _ => bn2 (fX9_book a1 (xs (k + 1)) h) fun r h1 => bn (chk 10 a2 h1) fun _ => bn2 (fX10_book a2 (xs (k + 1)) h1) fun r2 h2 => if r = r2 then K h2 else none) := by
  refine J_aload_n (pc := 766) C dl_766 rfl 2 rfl ?_
  refine J_argC (pc := 767) C X hk 1 (by decide) (by decide) ad_767 ?_
  refine J_callVI (pc := 772) (As := [.int (xs (k + 1))]) (rest := []) C (fun z hz => mX9_book a1 (xs (k + 1)) h z hz) mwX9_book csX9_book mqL_96 inX9_book rfl dl_772 (by decide) rfl (Nat.le_of_ble_eq_true rfl) ⟨show cells + 0 ≤ 600000 by omega, show slots + 0 ≤ 7302250 by omega⟩ (fun r h1 => ?_)
  refine J_aload_n (pc := 775) C dl_775 rfl 1 rfl ?_
  refine J_argC (pc := 776) C X hk 1 (by decide) (by decide) ad_776 ?_
  refine J_callVI (pc := 781) (As := [.int (xs (k + 1))]) (rest := [.int r]) C (fun z hz => mX10_book a2 (xs (k + 1)) h1 z hz) mwX10_book csX10_book mqL_99 inX10_book rfl dl_781 (by decide) rfl (Nat.le_of_ble_eq_true rfl) ⟨show cells + 0 + 0 ≤ 600000 by omega, show slots + 0 + 0 ≤ 7302250 by omega⟩ (fun r2 h2 => ?_)
  exact J_icmp_eq (pc := 784) (tgt := 1051) C dl_784 (by decide) (kk h2 _ _ (show cells + 0 + 0 ≤ cells + 2 by omega) (show slots + 0 + 0 ≤ slots + 15 by omega)) (J_none C)
set_option maxHeartbeats 4000000 in
theorem arm_surface (C : Cx p s m args meth c G code 4 R_law) (X : SX G s bs L xs) (hk : k + 7 ≤ L) (hc : cells + 2 ≤ 600000) (hs : slots + 15 ≤ 7302250) {K : PH → Option (Unit × PH)} (kk : ∀ (h2 : PH) (c2 s2 : Nat), c2 ≤ cells + 2 → s2 ≤ slots + 15 → J p l e room_1 s m args below meth c G 4 qf c2 s2 h2 1051 (lvL bs a1 a2 k) [] (K h2)) : J p l e room_1 s m args below meth c G 4 qf cells slots h 789 (lvL bs a1 a2 k) [] (bn (chk 9 a1 h) fun _ => bn2 (fX9_surface a1 (xs (k + 1)) (xs (k + 2)) (xs (k + 3)) (xs (k + 4)) h) fun r h1 => bn (chk 10 a2 h1) fun _ => bn2 (fX10_surface a2 (xs (k + 1)) (xs (k + 2)) (xs (k + 3)) (xs (k + 4)) h1) fun r2 h2 => if r = r2 then K h2 else none) := by
  refine J_aload_n (pc := 789) C dl_789 rfl 2 rfl ?_
  refine J_argC (pc := 790) C X hk 1 (by decide) (by decide) ad_790 ?_
  refine J_argC (pc := 795) C X hk 2 (by decide) (by decide) ad_795 ?_
  refine J_argC (pc := 800) C X hk 3 (by decide) (by decide) ad_800 ?_
  refine J_argC (pc := 805) C X hk 4 (by decide) (by decide) ad_805 ?_
  refine J_callVJ (pc := 810) (As := [.int (xs (k + 1)), .int (xs (k + 2)), .int (xs (k + 3)), .int (xs (k + 4))]) (rest := []) C (fun z hz => mX9_surface a1 (xs (k + 1)) (xs (k + 2)) (xs (k + 3)) (xs (k + 4)) h z hz) mwX9_surface csX9_surface mqL_100 inX9_surface rfl dl_810 (by decide) rfl (Nat.le_of_ble_eq_true rfl) ⟨show cells + 0 ≤ 600000 by omega, show slots + 0 ≤ 7302250 by omega⟩ (fun r h1 => ?_)
  refine J_aload_n (pc := 813) C dl_813 rfl 1 rfl ?_
  refine J_argC (pc := 814) C X hk 1 (by decide) (by decide) ad_814 ?_
  refine J_argC (pc := 819) C X hk 2 (by decide) (by decide) ad_819 ?_
  refine J_argC (pc := 824) C X hk 3 (by decide) (by decide) ad_824 ?_
  refine J_argC (pc := 829) C X hk 4 (by decide) (by decide) ad_829 ?_
  refine J_callVJ (pc := 834) (As := [.int (xs (k + 1)), .int (xs (k + 2)), .int (xs (k + 3)), .int (xs (k + 4))]) (rest := [.long r]) C (fun z hz => mX10_surface a2 (xs (k + 1)) (xs (k + 2)) (xs (k + 3)) (xs (k + 4)) h1 z hz) mwX10_surface csX10_surface mqL_104 inX10_surface rfl dl_834 (by decide) rfl (Nat.le_of_ble_eq_true rfl) ⟨show cells + 0 + 0 ≤ 600000 by omega, show slots + 0 + 0 ≤ 7302250 by omega⟩ (fun r2 h2 => ?_)
  exact J_lcmp_eq (pc := 837) (tgt := 1051) C dl_837 dl_838 (by decide) (kk h2 _ _ (show cells + 0 + 0 ≤ cells + 2 by omega) (show slots + 0 + 0 ≤ slots + 15 by omega)) (J_none C)
set_option maxHeartbeats 4000000 in
theorem arm_pass (C : Cx p s m args meth c G code 4 R_law) (X : SX G s bs L xs) (hk : k + 7 ≤ L) (hc : cells + 2 ≤ 600000) (hs : slots + 15 ≤ 7302250) {K : PH → Option (Unit × PH)} (kk : ∀ (h2 : PH) (c2 s2 : Nat), c2 ≤ cells + 2 → s2 ≤ slots + 15 → J p l e room_1 s m args below meth c G 4 qf c2 s2 h2 1051 (lvL bs a1 a2 k) [] (K h2)) : J p l e room_1 s m args below meth c G 4 qf cells slots h 843 (lvL bs a1 a2 k) [] (bn (chk 9 a1 h) fun _ => bn2 (fX9_pass a1 (xs (k + 1)) (xs (k + 2)) (xs (k + 3)) (xs (k + 4)) h) fun r h1 => bn (chk 10 a2 h1) fun _ => bn2 (fX10_pass a2 (xs (k + 1)) (xs (k + 2)) (xs (k + 3)) (xs (k + 4)) h1) fun r2 h2 => if r = r2 then K h2 else none) := by
  refine J_aload_n (pc := 843) C dl_843 rfl 2 rfl ?_
  refine J_argC (pc := 844) C X hk 1 (by decide) (by decide) ad_844 ?_
  refine J_argC (pc := 849) C X hk 2 (by decide) (by decide) ad_849 ?_
  refine J_argC (pc := 854) C X hk 3 (by decide) (by decide) ad_854 ?_
  refine J_argC (pc := 859) C X hk 4 (by decide) (by decide) ad_859 ?_
  refine J_callVI (pc := 864) (As := [.int (xs (k + 1)), .int (xs (k + 2)), .int (xs (k + 3)), .int (xs (k + 4))]) (rest := []) C (fun z hz => mX9_pass a1 (xs (k + 1)) (xs (k + 2)) (xs (k + 3)) (xs (k + 4)) h z hz) mwX9_pass csX9_pass mqL_105 inX9_pass rfl dl_864 (by decide) rfl (Nat.le_of_ble_eq_true rfl) ⟨show cells + 0 ≤ 600000 by omega, show slots + 0 ≤ 7302250 by omega⟩ (fun r h1 => ?_)
  refine J_aload_n (pc := 867) C dl_867 rfl 1 rfl ?_
  refine J_argC (pc := 868) C X hk 1 (by decide) (by decide) ad_868 ?_
  refine J_argC (pc := 873) C X hk 2 (by decide) (by decide) ad_873 ?_
  refine J_argC (pc := 878) C X hk 3 (by decide) (by decide) ad_878 ?_
  refine J_argC (pc := 883) C X hk 4 (by decide) (by decide) ad_883 ?_
  refine J_callVI (pc := 888) (As := [.int (xs (k + 1)), .int (xs (k + 2)), .int (xs (k + 3)), .int (xs (k + 4))]) (rest := [.int r]) C (fun z hz => mX10_pass a2 (xs (k + 1)) (xs (k + 2)) (xs (k + 3)) (xs (k + 4)) h1 z hz) mwX10_pass csX10_pass mqL_109 inX10_pass rfl dl_888 (by decide) rfl (Nat.le_of_ble_eq_true rfl) ⟨show cells + 0 + 0 ≤ 600000 by omega, show slots + 0 + 0 ≤ 7302250 by omega⟩ (fun r2 h2 => ?_)
  exact J_icmp_eq (pc := 891) (tgt := 1051) C dl_891 (by decide) (kk h2 _ _ (show cells + 0 + 0 ≤ cells + 2 by omega) (show slots + 0 + 0 ≤ slots + 15 by omega)) (J_none C)
set_option maxHeartbeats 4000000 in
theorem arm_held (C : Cx p s m args meth c G code 4 R_law) (X : SX G s bs L xs) (hk : k + 7 ≤ L) (hc : cells + 2 ≤ 600000) (hs : slots + 15 ≤ 7302250) {K : PH → Option (Unit × PH)} (kk : ∀ (h2 : PH) (c2 s2 : Nat), c2 ≤ cells + 2 → s2 ≤ slots + 15 → J p l e room_1 s m args below meth c G 4 qf c2 s2 h2 1051 (lvL bs a1 a2 k) [] (K h2)) : J p l e room_1 s m args below meth c G 4 qf cells slots h 896 (lvL bs a1 a2 k) [] (bn (chk 9 a1 h) fun _ => bn2 (fX9_held a1 (xs (k + 1)) (xs (k + 2)) (xs (k + 3)) h) fun r h1 => bn (chk 10 a2 h1) fun _ => bn2 (fX10_held a2 (xs (k + 1)) (xs (k + 2)) (xs (k + 3)) h1) fun r2 h2 => if r = r2 then K h2 else none) := by
  refine J_aload_n (pc := 896) C dl_896 rfl 2 rfl ?_
  refine J_argC (pc := 897) C X hk 1 (by decide) (by decide) ad_897 ?_
  refine J_argC (pc := 902) C X hk 2 (by decide) (by decide) ad_902 ?_
  refine J_argC (pc := 907) C X hk 3 (by decide) (by decide) ad_907 ?_
  refine J_callVI (pc := 912) (As := [.int (xs (k + 1)), .int (xs (k + 2)), .int (xs (k + 3))]) (rest := []) C (fun z hz => mX9_held a1 (xs (k + 1)) (xs (k + 2)) (xs (k + 3)) h z hz) mwX9_held csX9_held mqL_110 inX9_held rfl dl_912 (by decide) rfl (Nat.le_of_ble_eq_true rfl) ⟨show cells + 0 ≤ 600000 by omega, show slots + 0 ≤ 7302250 by omega⟩ (fun r h1 => ?_)
  refine J_aload_n (pc := 915) C dl_915 rfl 1 rfl ?_
  refine J_argC (pc := 916) C X hk 1 (by decide) (by decide) ad_916 ?_
  refine J_argC (pc := 921) C X hk 2 (by decide) (by decide) ad_921 ?_
  refine J_argC (pc := 926) C X hk 3 (by decide) (by decide) ad_926 ?_
  refine J_callVI (pc := 931) (As := [.int (xs (k + 1)), .int (xs (k + 2)), .int (xs (k + 3))]) (rest := [.int r]) C (fun z hz => mX10_held a2 (xs (k + 1)) (xs (k + 2)) (xs (k + 3)) h1 z hz) mwX10_held csX10_held mqL_113 inX10_held rfl dl_931 (by decide) rfl (Nat.le_of_ble_eq_true rfl) ⟨show cells + 0 + 0 ≤ 600000 by omega, show slots + 0 + 0 ≤ 7302250 by omega⟩ (fun r2 h2 => ?_)
  exact J_icmp_eq (pc := 934) (tgt := 1051) C dl_934 (by decide) (kk h2 _ _ (show cells + 0 + 0 ≤ cells + 2 by omega) (show slots + 0 + 0 ≤ slots + 15 by omega)) (J_none C)
set_option maxHeartbeats 4000000 in
theorem arm_find (C : Cx p s m args meth c G code 4 R_law) (X : SX G s bs L xs) (hk : k + 7 ≤ L) (hc : cells + 2 ≤ 600000) (hs : slots + 15 ≤ 7302250) {K : PH → Option (Unit × PH)} (kk : ∀ (h2 : PH) (c2 s2 : Nat), c2 ≤ cells + 2 → s2 ≤ slots + 15 → J p l e room_1 s m args below meth c G 4 qf c2 s2 h2 1051 (lvL bs a1 a2 k) [] (K h2)) : J p l e room_1 s m args below meth c G 4 qf cells slots h 939 (lvL bs a1 a2 k) [] (bn (chk 9 a1 h) fun _ => bn2 (fX9_find a1 (xs (k + 1)) (xs (k + 2)) (xs (k + 3)) h) fun r h1 => bn (chk 10 a2 h1) fun _ => bn2 (fX10_find a2 (xs (k + 1)) (xs (k + 2)) (xs (k + 3)) h1) fun r2 h2 => if r = r2 then K h2 else none) := by
  refine J_aload_n (pc := 939) C dl_939 rfl 2 rfl ?_
  refine J_argC (pc := 940) C X hk 1 (by decide) (by decide) ad_940 ?_
  refine J_argC (pc := 945) C X hk 2 (by decide) (by decide) ad_945 ?_
  refine J_argC (pc := 950) C X hk 3 (by decide) (by decide) ad_950 ?_
  refine J_callVI (pc := 955) (As := [.int (xs (k + 1)), .int (xs (k + 2)), .int (xs (k + 3))]) (rest := []) C (fun z hz => mX9_find a1 (xs (k + 1)) (xs (k + 2)) (xs (k + 3)) h z hz) mwX9_find csX9_find mqL_114 inX9_find rfl dl_955 (by decide) rfl (Nat.le_of_ble_eq_true rfl) ⟨show cells + 0 ≤ 600000 by omega, show slots + 0 ≤ 7302250 by omega⟩ (fun r h1 => ?_)
  refine J_aload_n (pc := 958) C dl_958 rfl 1 rfl ?_
  refine J_argC (pc := 959) C X hk 1 (by decide) (by decide) ad_959 ?_
  refine J_argC (pc := 964) C X hk 2 (by decide) (by decide) ad_964 ?_
  refine J_argC (pc := 969) C X hk 3 (by decide) (by decide) ad_969 ?_
  refine J_callVI (pc := 974) (As := [.int (xs (k + 1)), .int (xs (k + 2)), .int (xs (k + 3))]) (rest := [.int r]) C (fun z hz => mX10_find a2 (xs (k + 1)) (xs (k + 2)) (xs (k + 3)) h1 z hz) mwX10_find csX10_find mqL_117 inX10_find rfl dl_974 (by decide) rfl (Nat.le_of_ble_eq_true rfl) ⟨show cells + 0 + 0 ≤ 600000 by omega, show slots + 0 + 0 ≤ 7302250 by omega⟩ (fun r2 h2 => ?_)
  exact J_icmp_eq (pc := 977) (tgt := 1051) C dl_977 (by decide) (kk h2 _ _ (show cells + 0 + 0 ≤ cells + 2 by omega) (show slots + 0 + 0 ≤ slots + 15 by omega)) (J_none C)
set_option maxHeartbeats 4000000 in
theorem arm_missing (C : Cx p s m args meth c G code 4 R_law) (X : SX G s bs L xs) (hk : k + 7 ≤ L) (hc : cells + 2 ≤ 600000) (hs : slots + 15 ≤ 7302250) {K : PH → Option (Unit × PH)} (kk : ∀ (h2 : PH) (c2 s2 : Nat), c2 ≤ cells + 2 → s2 ≤ slots + 15 → J p l e room_1 s m args below meth c G 4 qf c2 s2 h2 1051 (lvL bs a1 a2 k) [] (K h2)) : J p l e room_1 s m args below meth c G 4 qf cells slots h 982 (lvL bs a1 a2 k) [] (bn (chk 9 a1 h) fun _ => bn2 (fX9_missing a1 (xs (k + 1)) (xs (k + 2)) h) fun r h1 => bn (chk 10 a2 h1) fun _ => bn2 (fX10_missing a2 (xs (k + 1)) (xs (k + 2)) h1) fun r2 h2 => if r = r2 then K h2 else none) := by
  refine J_aload_n (pc := 982) C dl_982 rfl 2 rfl ?_
  refine J_argC (pc := 983) C X hk 1 (by decide) (by decide) ad_983 ?_
  refine J_argC (pc := 988) C X hk 2 (by decide) (by decide) ad_988 ?_
  refine J_callVI (pc := 993) (As := [.int (xs (k + 1)), .int (xs (k + 2))]) (rest := []) C (fun z hz => mX9_missing a1 (xs (k + 1)) (xs (k + 2)) h z hz) mwX9_missing csX9_missing mqL_118 inX9_missing rfl dl_993 (by decide) rfl (Nat.le_of_ble_eq_true rfl) ⟨show cells + 0 ≤ 600000 by omega, show slots + 0 ≤ 7302250 by omega⟩ (fun r h1 => ?_)
  refine J_aload_n (pc := 996) C dl_996 rfl 1 rfl ?_
  refine J_argC (pc := 997) C X hk 1 (by decide) (by decide) ad_997 ?_
  refine J_argC (pc := 1002) C X hk 2 (by decide) (by decide) ad_1002 ?_
  refine J_callVI (pc := 1007) (As := [.int (xs (k + 1)), .int (xs (k + 2))]) (rest := [.int r]) C (fun z hz => mX10_missing a2 (xs (k + 1)) (xs (k + 2)) h1 z hz) mwX10_missing csX10_missing mqL_121 inX10_missing rfl dl_1007 (by decide) rfl (Nat.le_of_ble_eq_true rfl) ⟨show cells + 0 + 0 ≤ 600000 by omega, show slots + 0 + 0 ≤ 7302250 by omega⟩ (fun r2 h2 => ?_)
  exact J_icmp_eq (pc := 1010) (tgt := 1051) C dl_1010 (by decide) (kk h2 _ _ (show cells + 0 + 0 ≤ cells + 2 by omega) (show slots + 0 + 0 ≤ slots + 15 by omega)) (J_none C)
set_option maxHeartbeats 4000000 in
theorem arm_count (C : Cx p s m args meth c G code 4 R_law) (X : SX G s bs L xs) (hk : k + 7 ≤ L) (hc : cells + 2 ≤ 600000) (hs : slots + 15 ≤ 7302250) {K : PH → Option (Unit × PH)} (kk : ∀ (h2 : PH) (c2 s2 : Nat), c2 ≤ cells + 2 → s2 ≤ slots + 15 → J p l e room_1 s m args below meth c G 4 qf c2 s2 h2 1051 (lvL bs a1 a2 k) [] (K h2)) : J p l e room_1 s m args below meth c G 4 qf cells slots h 1015 (lvL bs a1 a2 k) [] (bn (chk 9 a1 h) fun _ => bn2 (fX9_count a1 (xs (k + 1)) h) fun r h1 => bn (chk 10 a2 h1) fun _ => bn2 (fX10_count a2 (xs (k + 1)) h1) fun r2 h2 => if r = r2 then K h2 else none) := by
  refine J_aload_n (pc := 1015) C dl_1015 rfl 2 rfl ?_
  refine J_argC (pc := 1016) C X hk 1 (by decide) (by decide) ad_1016 ?_
  refine J_callVI (pc := 1021) (As := [.int (xs (k + 1))]) (rest := []) C (fun z hz => mX9_count a1 (xs (k + 1)) h z hz) mwX9_count csX9_count mqL_122 inX9_count rfl dl_1021 (by decide) rfl (Nat.le_of_ble_eq_true rfl) ⟨show cells + 0 ≤ 600000 by omega, show slots + 0 ≤ 7302250 by omega⟩ (fun r h1 => ?_)
  refine J_aload_n (pc := 1024) C dl_1024 rfl 1 rfl ?_
  refine J_argC (pc := 1025) C X hk 1 (by decide) (by decide) ad_1025 ?_
  refine J_callVI (pc := 1030) (As := [.int (xs (k + 1))]) (rest := [.int r]) C (fun z hz => mX10_count a2 (xs (k + 1)) h1 z hz) mwX10_count csX10_count mqL_125 inX10_count rfl dl_1030 (by decide) rfl (Nat.le_of_ble_eq_true rfl) ⟨show cells + 0 + 0 ≤ 600000 by omega, show slots + 0 + 0 ≤ 7302250 by omega⟩ (fun r2 h2 => ?_)
  exact J_icmp_eq (pc := 1033) (tgt := 1051) C dl_1033 (by decide) (kk h2 _ _ (show cells + 0 + 0 ≤ cells + 2 by omega) (show slots + 0 + 0 ≤ slots + 15 by omega)) (J_none C)
set_option maxHeartbeats 4000000 in
theorem arm_status (C : Cx p s m args meth c G code 4 R_law) (X : SX G s bs L xs) (hk : k + 7 ≤ L) (hc : cells + 2 ≤ 600000) (hs : slots + 15 ≤ 7302250) {K : PH → Option (Unit × PH)} (kk : ∀ (h2 : PH) (c2 s2 : Nat), c2 ≤ cells + 2 → s2 ≤ slots + 15 → J p l e room_1 s m args below meth c G 4 qf c2 s2 h2 1051 (lvL bs a1 a2 k) [] (K h2)) : J p l e room_1 s m args below meth c G 4 qf cells slots h 1038 (lvL bs a1 a2 k) [] (bn (chk 9 a1 h) fun _ => bn2 (fX9_status a1 h) fun r h1 => bn (chk 10 a2 h1) fun _ => bn2 (fX10_status a2 h1) fun r2 h2 => if r = r2 then K h2 else none) := by
  refine J_aload_n (pc := 1038) C dl_1038 rfl 2 rfl ?_
  refine J_callVI (pc := 1039) (As := []) (rest := []) C (fun z hz => mX9_status a1 h z hz) mwX9_status csX9_status mqL_126 inX9_status rfl dl_1039 (by decide) rfl (Nat.le_of_ble_eq_true rfl) ⟨show cells + 0 ≤ 600000 by omega, show slots + 0 ≤ 7302250 by omega⟩ (fun r h1 => ?_)
  refine J_aload_n (pc := 1042) C dl_1042 rfl 1 rfl ?_
  refine J_callVI (pc := 1043) (As := []) (rest := [.int r]) C (fun z hz => mX10_status a2 h1 z hz) mwX10_status csX10_status mqL_129 inX10_status rfl dl_1043 (by decide) rfl (Nat.le_of_ble_eq_true rfl) ⟨show cells + 0 + 0 ≤ 600000 by omega, show slots + 0 + 0 ≤ 7302250 by omega⟩ (fun r2 h2 => ?_)
  exact J_icmp_eq (pc := 1046) (tgt := 1051) C dl_1046 (by decide) (kk h2 _ _ (show cells + 0 + 0 ≤ cells + 2 by omega) (show slots + 0 + 0 ≤ slots + 15 by omega)) (J_none C)
end
