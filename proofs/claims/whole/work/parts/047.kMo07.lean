abbrev wd_Mo_readFrame (w wi wh wb wc wl wo wd wm wp : Nat) (cB cI cJ : ClassId) (win : Int32) (won : Int32) (whn : Int32) (wpl : Int32) (wdn : Int32) (wfo : Int32) (wmn : Int32) (wpn : Int32) (wbn : Int32) (wcn : Int32) (wat : Int32) (wnu : Int32) (wif : Nat → Int32) (whf : Nat → Int32) (wbf : Nat → Int32) (wcf : Nat → Int32) (wlf : Nat → Int64) : va_W := [(w, .inr (7, [.ref wi, .ref wo, .ref wh, .int win, .int won, .int whn, .int wpl, .ref wd, .int wdn, .int wfo, .ref wm, .int wmn, .ref wp, .int wpn, .ref wb, .int wbn, .ref wc, .int wcn, .ref wl, .int wat, .int wnu])), (wi, .inl (cI, 8000, .inl wif)), (wh, .inl (cI, 8000, .inl whf)), (wb, .inl (cI, 16000, .inl wbf)), (wc, .inl (cI, 8000, .inl wcf)), (wl, .inl (cJ, 4, .inr (.inl wlf)))]
abbrev rm_Mo_readFrame : Room := { frames := 3, cells := 0, slots := 0, locals := 97 }
section
variable {p : Program} {l : Launch} {e : Env} {s : State} {m : MethodId} {args : Array Value} {below : List Frame} {meth : Method} {c : Code} {dC : Nat → ClassId} {dI : Nat → Nat → Nat} {A : Nat → Prop} {cB cI cJ : ClassId} {H : Heap} {locs : List Loc} {ls : Array Slot} {N : Nat} {w wi wh wb wc wl wo wd wm wp : Nat}
noncomputable def j_Mo_readFrame_120 (wbn : Int32) (wcn : Int32) (wat : Int32) (wnu : Int32) (wbf : Nat → Int32) (wcf : Nat → Int32) (wlf : Nat → Int64)  : Option (Int32 × Int32 × Int32 × Int32 × Int32 × Int32 × (Nat → Int32) × (Nat → Int32) × (Nat → Int64)) :=
  bd2 (f_Mo_fault (5 : Int32) wat) (fun r126 wpl_126 => (some (r126, wpl_126, wbn, wcn, wat, wnu, wbf, wcf, wlf) : Option (Int32 × Int32 × Int32 × Int32 × Int32 × Int32 × (Nat → Int32) × (Nat → Int32) × (Nat → Int64))))
set_option maxHeartbeats 4000000 in
set_option maxRecDepth 100000 in
theorem k_Mo_readFrame_120 {r_z : Int32} {wpl_z : Int32} {wbn_z : Int32} {wcn_z : Int32} {wat_z : Int32} {wnu_z : Int32} {wbf_z : Nat → Int32} {wcf_z : Nat → Int32} {wlf_z : Nat → Int64} (C : Fx p s m args meth c cd_Mo_readFrame 11 R_Mo lw_g (some .int)) (hK : va_K (dC, dI) vwCl [(cB, .byte), (cI, .int), (cJ, .long)] s) (hA : ∀ q, s.heap.size ≤ q → A q) (win : Int32) (won : Int32) (whn : Int32) (wpl : Int32) (wdn : Int32) (wfo : Int32) (wmn : Int32) (wpn : Int32) (wbn : Int32) (wcn : Int32) (wat : Int32) (wnu : Int32) (wif : Nat → Int32) (whf : Nat → Int32) (wbf : Nat → Int32) (wcf : Nat → Int32) (wlf : Nat → Int64)  (hf : j_Mo_readFrame_120 wbn wcn wat wnu wbf wcf wlf  = some (r_z, wpl_z, wbn_z, wcn_z, wat_z, wnu_z, wbf_z, wcf_z, wlf_z)) (hP : va_P (dC, dI) vwCl (wd_Mo_readFrame w wi wh wb wc wl wo wd wm wp cB cI cJ win won whn wpl wdn wfo wmn wpn wbn wcn wat wnu wif whf wbf wcf wlf) H) (hD : va_D A (wd_Mo_readFrame w wi wh wb wc wl wo wd wm wp cB cI cJ win won whn wpl wdn wfo wmn wpn wbn wcn wat wnu wif whf wbf wcf wlf)) (hS : va_S A s.heap H locs) (hl : lv_has ls 11 [(0, .ref w)]) : W p l e rm_Mo_readFrame s m args below meth c H locs 0 0 (MQ below (sQi (dC, dI) vwCl [(cB, .byte), (cI, .int), (cJ, .long)] A r_z (wd_Mo_readFrame w wi wh wb wc wl wo wd wm wp cB cI cJ win won whn wpl_z wdn wfo wmn wpn wbn_z wcn_z wat_z wnu_z wif whf wbf_z wcf_z wlf_z)) args s 0 0 A) (F0 m 120 ls []) := by
  obtain ⟨hx, hb, hml, hown, hts, hr, hlocks, hZ⟩ := id C
  unfold j_Mo_readFrame_120 at hf
  refine lv_aload_n hx hb d_Mo_readFrame_120 rfl (lv_at hl 0 rfl) ?_
  refine lv_iconst (v := 5) hx hb d_Mo_readFrame_121 (by decide) ?_
  refine lv_aload_n hx hb d_Mo_readFrame_122 rfl (lv_at hl 0 rfl) ?_
  refine va_get (D := (dC, dI)) (ci := 7) (v := .int wat) (C := R_Mo) (T := T_Mo) (N := 21) hx hb hts w_359 hown hK hP 0 rfl rfl 19 (by decide) (hts _ w_368) (fun _ h9 => h9) rfl d_Mo_readFrame_123 ?_
  obtain ⟨r126, wpl_126, hc126, hf⟩ := bd2_some hf
  refine s_Vi (As := [.int (5 : Int32), .int wat]) (rest := []) (wr := [(wi, .inl (cI, 8000, .inl wif)), (wh, .inl (cI, 8000, .inl whf)), (wb, .inl (cI, 16000, .inl wbf)), (wc, .inl (cI, 8000, .inl wcf)), (wl, .inl (cJ, 4, .inr (.inl wlf)))]) (ws' := wd_Mo_readFrame w wi wh wb wc wl wo wd wm wp cB cI cJ win won whn wpl_126 wdn wfo wmn wpn wbn wcn wat wnu wif whf wbf wcf wlf) C.call (c_Mo_fault l dC dI cB cI cJ w wi wo wh wd wm wp wb wc wl  win won whn wpl wdn wfo wmn wpn wbn wcn wat wnu (5 : Int32) wat hc126) (cwV 2 hts (gd_V w_468 w_469 w_470 w_365 w_471) rfl rfl rfl ⟨rfl, hd_Mo_fault⟩ ⟨Nat.le_of_ble_eq_true rfl, Nat.le_of_ble_eq_true rfl⟩) rfl hl.1 rfl (Nat.le_of_ble_eq_true rfl) d_Mo_readFrame_126 ⟨Nat.le_of_ble_eq_true rfl, Nat.le_of_ble_eq_true rfl⟩ hZ hK hP hD hS hA 7 0 rfl rfl [0] [1, 2, 3, 4, 5] [5, 0, 1, 2, 3, 4] rfl rfl rfl rfl (by decide) rfl rfl (fun H locs hP hD hS => ?_)
  cases hf
  exact s_iret hx hb hr hlocks hP hK hD hS d_Mo_readFrame_129
noncomputable def j_Mo_readFrame_445 (N : Nat) (x3 : Int32) (x5 : Int32) (x6 : Int32) (wpl : Int32) (wbn : Int32) (wcn : Int32) (wat : Int32) (wnu : Int32) (wif : Nat → Int32) (wbf : Nat → Int32) (wcf : Nat → Int32) (wlf : Nat → Int64)  : Option (Int32 × Int32 × Int32 × Int32 × Int32 × Int32 × (Nat → Int32) × (Nat → Int32) × (Nat → Int64)) :=
  (if (x3 &&& (8 : Int32)) = 0 then (some ((0 : Int32), wpl, wbn, wcn, wat, wnu, wbf, wcf, wlf) : Option (Int32 × Int32 × Int32 × Int32 × Int32 × Int32 × (Nat → Int32) × (Nat → Int32) × (Nat → Int64))) else bd1 (f_Mo_numberAt N x5 (8 : Int32) wif) (fun r457 => (if (lg_cmp r457 ((wcn - x6).toInt64)) = 0 then (some ((0 : Int32), wpl, wbn, wcn, wat, wnu, wbf, wcf, wlf) : Option (Int32 × Int32 × Int32 × Int32 × Int32 × Int32 × (Nat → Int32) × (Nat → Int32) × (Nat → Int64))) else bd2 (f_Mo_fault (11 : Int32) x5) (fun r477 wpl_477 => (some (r477, wpl_477, wbn, wcn, wat, wnu, wbf, wcf, wlf) : Option (Int32 × Int32 × Int32 × Int32 × Int32 × Int32 × (Nat → Int32) × (Nat → Int32) × (Nat → Int64)))))))
set_option maxHeartbeats 4000000 in
set_option maxRecDepth 100000 in
theorem k_Mo_readFrame_445 {r_z : Int32} {wpl_z : Int32} {wbn_z : Int32} {wcn_z : Int32} {wat_z : Int32} {wnu_z : Int32} {wbf_z : Nat → Int32} {wcf_z : Nat → Int32} {wlf_z : Nat → Int64} (C : Fx p s m args meth c cd_Mo_readFrame 11 R_Mo lw_g (some .int)) (hK : va_K (dC, dI) vwCl [(cB, .byte), (cI, .int), (cJ, .long)] s) (hA : ∀ q, s.heap.size ≤ q → A q) (x3 : Int32) (x5 : Int32) (x6 : Int32) (win : Int32) (won : Int32) (whn : Int32) (wpl : Int32) (wdn : Int32) (wfo : Int32) (wmn : Int32) (wpn : Int32) (wbn : Int32) (wcn : Int32) (wat : Int32) (wnu : Int32) (wif : Nat → Int32) (whf : Nat → Int32) (wbf : Nat → Int32) (wcf : Nat → Int32) (wlf : Nat → Int64)  (hf : j_Mo_readFrame_445 N x3 x5 x6 wpl wbn wcn wat wnu wif wbf wcf wlf  = some (r_z, wpl_z, wbn_z, wcn_z, wat_z, wnu_z, wbf_z, wcf_z, wlf_z)) (hP : va_P (dC, dI) vwCl (wd_Mo_readFrame w wi wh wb wc wl wo wd wm wp cB cI cJ win won whn wpl wdn wfo wmn wpn wbn wcn wat wnu wif whf wbf wcf wlf) H) (hD : va_D A (wd_Mo_readFrame w wi wh wb wc wl wo wd wm wp cB cI cJ win won whn wpl wdn wfo wmn wpn wbn wcn wat wnu wif whf wbf wcf wlf)) (hS : va_S A s.heap H locs) (hl : lv_has ls 11 [(0, .ref w), (3, .int x3), (5, .int x5), (6, .int x6)]) : W p l e rm_Mo_readFrame s m args below meth c H locs 0 0 (MQ below (sQi (dC, dI) vwCl [(cB, .byte), (cI, .int), (cJ, .long)] A r_z (wd_Mo_readFrame w wi wh wb wc wl wo wd wm wp cB cI cJ win won whn wpl_z wdn wfo wmn wpn wbn_z wcn_z wat_z wnu_z wif whf wbf_z wcf_z wlf_z)) args s 0 0 A) (F0 m 445 ls []) := by
  obtain ⟨hx, hb, hml, hown, hts, hr, hlocks, hZ⟩ := id C
  unfold j_Mo_readFrame_445 at hf
  refine lv_iload_n hx hb d_Mo_readFrame_445 rfl (lv_at hl 1 rfl) ?_
  refine lv_bipush (v := 8) hx hb d_Mo_readFrame_446 (by decide) ?_
  refine lv_iand hx hb d_Mo_readFrame_448 ?_
  refine lv_if_eq (tgt := 483) hx hb d_Mo_readFrame_449 (by decide) (fun c_449 => ?_) (fun c_449 => ?_)
  · have hf := br_pos c_449 hf
    refine lv_iconst (v := 0) hx hb d_Mo_readFrame_483 (by decide) ?_
    cases hf
    exact s_iret hx hb hr hlocks hP hK hD hS d_Mo_readFrame_484
  · have hf := br_neg c_449 hf
    refine lv_aload_n hx hb d_Mo_readFrame_452 rfl (lv_at hl 0 rfl) ?_
    refine lv_iload hx hb d_Mo_readFrame_453 (lv_at hl 2 rfl) ?_
    refine lv_bipush (v := 8) hx hb d_Mo_readFrame_455 (by decide) ?_
    obtain ⟨r457, hc457, hf⟩ := bd1_some hf
    refine s_Vl (As := [.int x5, .int (8 : Int32)]) (rest := []) (wr := [(wh, .inl (cI, 8000, .inl whf)), (wb, .inl (cI, 16000, .inl wbf)), (wc, .inl (cI, 8000, .inl wcf)), (wl, .inl (cJ, 4, .inr (.inl wlf)))]) (ws' := wd_Mo_readFrame w wi wh wb wc wl wo wd wm wp cB cI cJ win won whn wpl wdn wfo wmn wpn wbn wcn wat wnu wif whf wbf wcf wlf) C.call (c_Mo_numberAt l dC dI cB cI cJ w wi wo wh wd wm wp wb wc wl  win won whn wpl wdn wfo wmn wpn wbn wcn wat wnu wif x5 (8 : Int32) hc457) (cwV 2 hts (gd_V w_476 w_477 w_478 w_365 w_479) rfl rfl rfl ⟨rfl, hd_Mo_numberAt⟩ ⟨Nat.le_of_ble_eq_true rfl, Nat.le_of_ble_eq_true rfl⟩) rfl hl.1 rfl (Nat.le_of_ble_eq_true rfl) d_Mo_readFrame_457 ⟨Nat.le_of_ble_eq_true rfl, Nat.le_of_ble_eq_true rfl⟩ hZ hK hP hD hS hA 7 0 rfl rfl [0, 1] [2, 3, 4, 5] [4, 5, 0, 1, 2, 3] rfl rfl rfl rfl (by decide) rfl rfl (fun H locs hP hD hS => ?_)
    refine lv_aload_n hx hb d_Mo_readFrame_460 rfl (lv_at hl 0 rfl) ?_
    refine va_get (D := (dC, dI)) (ci := 7) (v := .int wcn) (C := R_Mo) (T := T_Mo) (N := 21) hx hb hts w_359 hown hK hP 0 rfl rfl 17 (by decide) (hts _ w_458) (fun _ h9 => h9) rfl d_Mo_readFrame_461 ?_
    refine lv_iload hx hb d_Mo_readFrame_464 (lv_at hl 3 rfl) ?_
    refine lv_isub hx hb d_Mo_readFrame_466 ?_
    refine lv_i2l (v := ((wcn - x6).toInt64)) hx hb d_Mo_readFrame_467 rfl ?_
    refine W.lcmp hx hb d_Mo_readFrame_468 ?_
    refine lv_if_eq (tgt := 483) hx hb d_Mo_readFrame_469 (by decide) (fun c_469 => ?_) (fun c_469 => ?_)
    · have hf := br_pos c_469 hf
      refine lv_iconst (v := 0) hx hb d_Mo_readFrame_483 (by decide) ?_
      cases hf
      exact s_iret hx hb hr hlocks hP hK hD hS d_Mo_readFrame_484
    · have hf := br_neg c_469 hf
      refine lv_aload_n hx hb d_Mo_readFrame_472 rfl (lv_at hl 0 rfl) ?_
      refine lv_bipush (v := 11) hx hb d_Mo_readFrame_473 (by decide) ?_
      refine lv_iload hx hb d_Mo_readFrame_475 (lv_at hl 2 rfl) ?_
      obtain ⟨r477, wpl_477, hc477, hf⟩ := bd2_some hf
      refine s_Vi (As := [.int (11 : Int32), .int x5]) (rest := []) (wr := [(wi, .inl (cI, 8000, .inl wif)), (wh, .inl (cI, 8000, .inl whf)), (wb, .inl (cI, 16000, .inl wbf)), (wc, .inl (cI, 8000, .inl wcf)), (wl, .inl (cJ, 4, .inr (.inl wlf)))]) (ws' := wd_Mo_readFrame w wi wh wb wc wl wo wd wm wp cB cI cJ win won whn wpl_477 wdn wfo wmn wpn wbn wcn wat wnu wif whf wbf wcf wlf) C.call (c_Mo_fault l dC dI cB cI cJ w wi wo wh wd wm wp wb wc wl  win won whn wpl wdn wfo wmn wpn wbn wcn wat wnu (11 : Int32) x5 hc477) (cwV 2 hts (gd_V w_468 w_469 w_470 w_365 w_471) rfl rfl rfl ⟨rfl, hd_Mo_fault⟩ ⟨Nat.le_of_ble_eq_true rfl, Nat.le_of_ble_eq_true rfl⟩) rfl hl.1 rfl (Nat.le_of_ble_eq_true rfl) d_Mo_readFrame_477 ⟨Nat.le_of_ble_eq_true rfl, Nat.le_of_ble_eq_true rfl⟩ hZ hK hP hD hS hA 7 0 rfl rfl [0] [1, 2, 3, 4, 5] [5, 0, 1, 2, 3, 4] rfl rfl rfl rfl (by decide) rfl rfl (fun H locs hP hD hS => ?_)
      refine lv_goto (tgt := 484) hx hb d_Mo_readFrame_480 (by decide) ?_
      cases hf
      exact s_iret hx hb hr hlocks hP hK hD hS d_Mo_readFrame_484
noncomputable def j_Mo_readFrame_367 (x7 : Int32) (t0 : Int32) (wpl : Int32) (wbn : Int32) (wcn : Int32) (wnu : Int32) (wbf : Nat → Int32) (wcf : Nat → Int32) (wlf : Nat → Int64) (kh262 : Int32 → Int32 → Int32 → Int32 → Int32 → Int32 → (Nat → Int32) → (Nat → Int32) → (Nat → Int64) → Option (Int32 × Int32 × Int32 × Int32 × Int32 × Int32 × (Nat → Int32) × (Nat → Int32) × (Nat → Int64))) : Option (Int32 × Int32 × Int32 × Int32 × Int32 × Int32 × (Nat → Int32) × (Nat → Int32) × (Nat → Int64)) :=
  (kh262 x7 wpl wbn wcn t0 wnu wbf wcf wlf)
set_option maxHeartbeats 4000000 in
set_option maxRecDepth 100000 in
theorem k_Mo_readFrame_367 {r_z : Int32} {wpl_z : Int32} {wbn_z : Int32} {wcn_z : Int32} {wat_z : Int32} {wnu_z : Int32} {wbf_z : Nat → Int32} {wcf_z : Nat → Int32} {wlf_z : Nat → Int64} (C : Fx p s m args meth c cd_Mo_readFrame 11 R_Mo lw_g (some .int)) (hK : va_K (dC, dI) vwCl [(cB, .byte), (cI, .int), (cJ, .long)] s) (hA : ∀ q, s.heap.size ≤ q → A q) (x1 : Int32) (x3 : Int32) (x4 : Int32) (x5 : Int32) (x6 : Int32) (x7 : Int32) (t0 : Int32) (win : Int32) (won : Int32) (whn : Int32) (wpl : Int32) (wdn : Int32) (wfo : Int32) (wmn : Int32) (wpn : Int32) (wbn : Int32) (wcn : Int32) (wat : Int32) (wnu : Int32) (wif : Nat → Int32) (whf : Nat → Int32) (wbf : Nat → Int32) (wcf : Nat → Int32) (wlf : Nat → Int64) (kh262 : Int32 → Int32 → Int32 → Int32 → Int32 → Int32 → (Nat → Int32) → (Nat → Int32) → (Nat → Int64) → Option (Int32 × Int32 × Int32 × Int32 × Int32 × Int32 × (Nat → Int32) × (Nat → Int32) × (Nat → Int64))) (ih262 : ∀ (x7 : Int32) (wpl : Int32) (wbn : Int32) (wcn : Int32) (wat : Int32) (wnu : Int32) (wbf : Nat → Int32) (wcf : Nat → Int32) (wlf : Nat → Int64), kh262 x7 wpl wbn wcn wat wnu wbf wcf wlf = some (r_z, wpl_z, wbn_z, wcn_z, wat_z, wnu_z, wbf_z, wcf_z, wlf_z) → ∀ (H : Heap) (locs : List Loc), va_P (dC, dI) vwCl (wd_Mo_readFrame w wi wh wb wc wl wo wd wm wp cB cI cJ win won whn wpl wdn wfo wmn wpn wbn wcn wat wnu wif whf wbf wcf wlf) H → va_D A (wd_Mo_readFrame w wi wh wb wc wl wo wd wm wp cB cI cJ win won whn wpl wdn wfo wmn wpn wbn wcn wat wnu wif whf wbf wcf wlf) → va_S A s.heap H locs → ∀ (ls : Array Slot), lv_has ls 11 [(0, .ref w), (1, .int x1), (3, .int x3), (4, .int x4), (5, .int x5), (6, .int x6), (7, .int x7)] → W p l e rm_Mo_readFrame s m args below meth c H locs 0 0 (MQ below (sQi (dC, dI) vwCl [(cB, .byte), (cI, .int), (cJ, .long)] A r_z (wd_Mo_readFrame w wi wh wb wc wl wo wd wm wp cB cI cJ win won whn wpl_z wdn wfo wmn wpn wbn_z wcn_z wat_z wnu_z wif whf wbf_z wcf_z wlf_z)) args s 0 0 A) (F0 m 262 ls [])) (hf : j_Mo_readFrame_367 x7 t0 wpl wbn wcn wnu wbf wcf wlf kh262 = some (r_z, wpl_z, wbn_z, wcn_z, wat_z, wnu_z, wbf_z, wcf_z, wlf_z)) (hP : va_P (dC, dI) vwCl (wd_Mo_readFrame w wi wh wb wc wl wo wd wm wp cB cI cJ win won whn wpl wdn wfo wmn wpn wbn wcn wat wnu wif whf wbf wcf wlf) H) (hD : va_D A (wd_Mo_readFrame w wi wh wb wc wl wo wd wm wp cB cI cJ win won whn wpl wdn wfo wmn wpn wbn wcn wat wnu wif whf wbf wcf wlf)) (hS : va_S A s.heap H locs) (hl : lv_has ls 11 [(0, .ref w), (1, .int x1), (3, .int x3), (4, .int x4), (5, .int x5), (6, .int x6), (7, .int x7)]) : W p l e rm_Mo_readFrame s m args below meth c H locs 0 0 (MQ below (sQi (dC, dI) vwCl [(cB, .byte), (cI, .int), (cJ, .long)] A r_z (wd_Mo_readFrame w wi wh wb wc wl wo wd wm wp cB cI cJ win won whn wpl_z wdn wfo wmn wpn wbn_z wcn_z wat_z wnu_z wif whf wbf_z wcf_z wlf_z)) args s 0 0 A) (F0 m 367 ls [.int t0, .ref w]) := by
  obtain ⟨hx, hb, hml, hown, hts, hr, hlocks, hZ⟩ := id C
  unfold j_Mo_readFrame_367 at hf
  refine va_put (D := (dC, dI)) (ci := 7) (v := .int t0) (ty := .int) (C := R_Mo) (T := T_Mo) (N := 21) hx hb hts w_359 ty_Mo ty_Mo_ok nm_Mo hown hK hP hD hS 0 rfl rfl 19 (by decide) (hts _ w_368) (fun _ h9 => h9) rfl (by decide +kernel) rfl rfl (Nat.le_of_ble_eq_true rfl) d_Mo_readFrame_367 (fun H locs hP hD hS => ?_)
  have hP : va_P (dC, dI) vwCl (wd_Mo_readFrame w wi wh wb wc wl wo wd wm wp cB cI cJ win won whn wpl wdn wfo wmn wpn wbn wcn t0 wnu wif whf wbf wcf wlf) H := hP
  have hD : va_D A (wd_Mo_readFrame w wi wh wb wc wl wo wd wm wp cB cI cJ win won whn wpl wdn wfo wmn wpn wbn wcn t0 wnu wif whf wbf wcf wlf) := hD
  refine lv_goto (tgt := 262) hx hb d_Mo_readFrame_370 (by decide) ?_
  exact ih262 x7 wpl wbn wcn t0 wnu wbf wcf wlf hf _ _ hP hD hS _ (lv_sub hl [0, 1, 2, 3, 4, 5, 6] rfl)
noncomputable def j_Mo_readFrame_338 (x7 : Int32) (t0 : Int32) (wpl : Int32) (wbn : Int32) (wcn : Int32) (wat : Int32) (wnu : Int32) (wbf : Nat → Int32) (wcf : Nat → Int32) (wlf : Nat → Int64) (kh262 : Int32 → Int32 → Int32 → Int32 → Int32 → Int32 → (Nat → Int32) → (Nat → Int32) → (Nat → Int64) → Option (Int32 × Int32 × Int32 × Int32 × Int32 × Int32 × (Nat → Int32) × (Nat → Int32) × (Nat → Int64))) : Option (Int32 × Int32 × Int32 × Int32 × Int32 × Int32 × (Nat → Int32) × (Nat → Int32) × (Nat → Int64)) :=
  (if t0 ≤ 0 then (if x7 = 0 then (j_Mo_readFrame_367 x7 (wat + (4 : Int32)) wpl wbn wcn wnu wbf wcf wlf kh262) else (j_Mo_readFrame_367 x7 wat wpl wbn wcn wnu wbf wcf wlf kh262)) else (some (t0, wpl, wbn, wcn, wat, wnu, wbf, wcf, wlf) : Option (Int32 × Int32 × Int32 × Int32 × Int32 × Int32 × (Nat → Int32) × (Nat → Int32) × (Nat → Int64))))
set_option maxHeartbeats 4000000 in
set_option maxRecDepth 100000 in
theorem k_Mo_readFrame_338 {r_z : Int32} {wpl_z : Int32} {wbn_z : Int32} {wcn_z : Int32} {wat_z : Int32} {wnu_z : Int32} {wbf_z : Nat → Int32} {wcf_z : Nat → Int32} {wlf_z : Nat → Int64} (C : Fx p s m args meth c cd_Mo_readFrame 11 R_Mo lw_g (some .int)) (hK : va_K (dC, dI) vwCl [(cB, .byte), (cI, .int), (cJ, .long)] s) (hA : ∀ q, s.heap.size ≤ q → A q) (x1 : Int32) (x3 : Int32) (x4 : Int32) (x5 : Int32) (x6 : Int32) (x7 : Int32) (t0 : Int32) (win : Int32) (won : Int32) (whn : Int32) (wpl : Int32) (wdn : Int32) (wfo : Int32) (wmn : Int32) (wpn : Int32) (wbn : Int32) (wcn : Int32) (wat : Int32) (wnu : Int32) (wif : Nat → Int32) (whf : Nat → Int32) (wbf : Nat → Int32) (wcf : Nat → Int32) (wlf : Nat → Int64) (kh262 : Int32 → Int32 → Int32 → Int32 → Int32 → Int32 → (Nat → Int32) → (Nat → Int32) → (Nat → Int64) → Option (Int32 × Int32 × Int32 × Int32 × Int32 × Int32 × (Nat → Int32) × (Nat → Int32) × (Nat → Int64))) (ih262 : ∀ (x7 : Int32) (wpl : Int32) (wbn : Int32) (wcn : Int32) (wat : Int32) (wnu : Int32) (wbf : Nat → Int32) (wcf : Nat → Int32) (wlf : Nat → Int64), kh262 x7 wpl wbn wcn wat wnu wbf wcf wlf = some (r_z, wpl_z, wbn_z, wcn_z, wat_z, wnu_z, wbf_z, wcf_z, wlf_z) → ∀ (H : Heap) (locs : List Loc), va_P (dC, dI) vwCl (wd_Mo_readFrame w wi wh wb wc wl wo wd wm wp cB cI cJ win won whn wpl wdn wfo wmn wpn wbn wcn wat wnu wif whf wbf wcf wlf) H → va_D A (wd_Mo_readFrame w wi wh wb wc wl wo wd wm wp cB cI cJ win won whn wpl wdn wfo wmn wpn wbn wcn wat wnu wif whf wbf wcf wlf) → va_S A s.heap H locs → ∀ (ls : Array Slot), lv_has ls 11 [(0, .ref w), (1, .int x1), (3, .int x3), (4, .int x4), (5, .int x5), (6, .int x6), (7, .int x7)] → W p l e rm_Mo_readFrame s m args below meth c H locs 0 0 (MQ below (sQi (dC, dI) vwCl [(cB, .byte), (cI, .int), (cJ, .long)] A r_z (wd_Mo_readFrame w wi wh wb wc wl wo wd wm wp cB cI cJ win won whn wpl_z wdn wfo wmn wpn wbn_z wcn_z wat_z wnu_z wif whf wbf_z wcf_z wlf_z)) args s 0 0 A) (F0 m 262 ls [])) (hf : j_Mo_readFrame_338 x7 t0 wpl wbn wcn wat wnu wbf wcf wlf kh262 = some (r_z, wpl_z, wbn_z, wcn_z, wat_z, wnu_z, wbf_z, wcf_z, wlf_z)) (hP : va_P (dC, dI) vwCl (wd_Mo_readFrame w wi wh wb wc wl wo wd wm wp cB cI cJ win won whn wpl wdn wfo wmn wpn wbn wcn wat wnu wif whf wbf wcf wlf) H) (hD : va_D A (wd_Mo_readFrame w wi wh wb wc wl wo wd wm wp cB cI cJ win won whn wpl wdn wfo wmn wpn wbn wcn wat wnu wif whf wbf wcf wlf)) (hS : va_S A s.heap H locs) (hl : lv_has ls 11 [(0, .ref w), (1, .int x1), (3, .int x3), (4, .int x4), (5, .int x5), (6, .int x6), (7, .int x7)]) : W p l e rm_Mo_readFrame s m args below meth c H locs 0 0 (MQ below (sQi (dC, dI) vwCl [(cB, .byte), (cI, .int), (cJ, .long)] A r_z (wd_Mo_readFrame w wi wh wb wc wl wo wd wm wp cB cI cJ win won whn wpl_z wdn wfo wmn wpn wbn_z wcn_z wat_z wnu_z wif whf wbf_z wcf_z wlf_z)) args s 0 0 A) (F0 m 338 ls [.int t0]) := by
  obtain ⟨hx, hb, hml, hown, hts, hr, hlocks, hZ⟩ := id C
  unfold j_Mo_readFrame_338 at hf
  refine lv_istore (lv' := [(10, .int t0), (0, .ref w), (1, .int x1), (3, .int x3), (4, .int x4), (5, .int x5), (6, .int x6), (7, .int x7)]) hx hb d_Mo_readFrame_338 hl (by decide) rfl (fun ls hl => ?_)
  refine lv_iload hx hb d_Mo_readFrame_340 (lv_at hl 0 rfl) ?_
  refine lv_if_le (tgt := 348) hx hb d_Mo_readFrame_342 (by decide) (fun c_342 => ?_) (fun c_342 => ?_)
  · have hf := br_pos c_342 hf
    refine lv_aload_n hx hb d_Mo_readFrame_348 rfl (lv_at hl 1 rfl) ?_
    refine lv_iload hx hb d_Mo_readFrame_349 (lv_at hl 7 rfl) ?_
    refine lv_if_eq (tgt := 361) hx hb d_Mo_readFrame_351 (by decide) (fun c_351 => ?_) (fun c_351 => ?_)
    · have hf := br_pos c_351 hf
      refine lv_aload_n hx hb d_Mo_readFrame_361 rfl (lv_at hl 1 rfl) ?_
      refine va_get (D := (dC, dI)) (ci := 7) (v := .int wat) (C := R_Mo) (T := T_Mo) (N := 21) hx hb hts w_359 hown hK hP 0 rfl rfl 19 (by decide) (hts _ w_368) (fun _ h9 => h9) rfl d_Mo_readFrame_362 ?_
      refine lv_iconst (v := 4) hx hb d_Mo_readFrame_365 (by decide) ?_
      refine lv_iadd hx hb d_Mo_readFrame_366 ?_
      exact k_Mo_readFrame_367 C hK hA x1 x3 x4 x5 x6 x7 (wat + (4 : Int32)) win won whn wpl wdn wfo wmn wpn wbn wcn wat wnu wif whf wbf wcf wlf kh262 ih262 hf hP hD hS (lv_sub hl [1, 2, 3, 4, 5, 6, 7] rfl)
    · have hf := br_neg c_351 hf
      refine lv_aload_n hx hb d_Mo_readFrame_354 rfl (lv_at hl 1 rfl) ?_
      refine va_get (D := (dC, dI)) (ci := 7) (v := .int wat) (C := R_Mo) (T := T_Mo) (N := 21) hx hb hts w_359 hown hK hP 0 rfl rfl 19 (by decide) (hts _ w_368) (fun _ h9 => h9) rfl d_Mo_readFrame_355 ?_
      refine lv_goto (tgt := 367) hx hb d_Mo_readFrame_358 (by decide) ?_
      exact k_Mo_readFrame_367 C hK hA x1 x3 x4 x5 x6 x7 wat win won whn wpl wdn wfo wmn wpn wbn wcn wat wnu wif whf wbf wcf wlf kh262 ih262 hf hP hD hS (lv_sub hl [1, 2, 3, 4, 5, 6, 7] rfl)
  · have hf := br_neg c_342 hf
    refine lv_iload hx hb d_Mo_readFrame_345 (lv_at hl 0 rfl) ?_
    cases hf
    exact s_iret hx hb hr hlocks hP hK hD hS d_Mo_readFrame_347
noncomputable def j_Mo_readFrame_308 (N : Nat) (x1 : Int32) (x3 : Int32) (x4 : Int32) (x6 : Int32) (x8 : Int64) (t0 : Int32) (win : Int32) (whn : Int32) (wpl : Int32) (wbn : Int32) (wcn : Int32) (wat : Int32) (wnu : Int32) (wif : Nat → Int32) (whf : Nat → Int32) (wbf : Nat → Int32) (wcf : Nat → Int32) (wlf : Nat → Int64) (kh262 : Int32 → Int32 → Int32 → Int32 → Int32 → Int32 → (Nat → Int32) → (Nat → Int32) → (Nat → Int64) → Option (Int32 × Int32 × Int32 × Int32 × Int32 × Int32 × (Nat → Int32) × (Nat → Int32) × (Nat → Int64))) : Option (Int32 × Int32 × Int32 × Int32 × Int32 × Int32 × (Nat → Int32) × (Nat → Int32) × (Nat → Int64)) :=
  (if t0 = 0 then (j_Mo_readFrame_338 t0 (0 : Int32) wpl wbn wcn wat wnu wbf wcf wlf kh262) else bd9 (f_Mo_readPart N x8 x3 ((1 : Int32) <<< (((8 : Int32) + ((2 : Int32) * x4)) &&& 31)) x6 x1 win whn wpl wbn wcn wat wnu wif whf wbf wcf wlf) (fun r331 wpl_331 wbn_331 wcn_331 wat_331 wnu_331 wbf_331 wcf_331 wlf_331 => (j_Mo_readFrame_338 t0 r331 wpl_331 wbn_331 wcn_331 wat_331 wnu_331 wbf_331 wcf_331 wlf_331 kh262)))
set_option maxHeartbeats 4000000 in
set_option maxRecDepth 100000 in
theorem k_Mo_readFrame_308 {r_z : Int32} {wpl_z : Int32} {wbn_z : Int32} {wcn_z : Int32} {wat_z : Int32} {wnu_z : Int32} {wbf_z : Nat → Int32} {wcf_z : Nat → Int32} {wlf_z : Nat → Int64} (C : Fx p s m args meth c cd_Mo_readFrame 11 R_Mo lw_g (some .int)) (hK : va_K (dC, dI) vwCl [(cB, .byte), (cI, .int), (cJ, .long)] s) (hA : ∀ q, s.heap.size ≤ q → A q) (x1 : Int32) (x3 : Int32) (x4 : Int32) (x5 : Int32) (x6 : Int32) (x8 : Int64) (t0 : Int32) (win : Int32) (won : Int32) (whn : Int32) (wpl : Int32) (wdn : Int32) (wfo : Int32) (wmn : Int32) (wpn : Int32) (wbn : Int32) (wcn : Int32) (wat : Int32) (wnu : Int32) (wif : Nat → Int32) (whf : Nat → Int32) (wbf : Nat → Int32) (wcf : Nat → Int32) (wlf : Nat → Int64) (kh262 : Int32 → Int32 → Int32 → Int32 → Int32 → Int32 → (Nat → Int32) → (Nat → Int32) → (Nat → Int64) → Option (Int32 × Int32 × Int32 × Int32 × Int32 × Int32 × (Nat → Int32) × (Nat → Int32) × (Nat → Int64))) (ih262 : ∀ (x7 : Int32) (wpl : Int32) (wbn : Int32) (wcn : Int32) (wat : Int32) (wnu : Int32) (wbf : Nat → Int32) (wcf : Nat → Int32) (wlf : Nat → Int64), kh262 x7 wpl wbn wcn wat wnu wbf wcf wlf = some (r_z, wpl_z, wbn_z, wcn_z, wat_z, wnu_z, wbf_z, wcf_z, wlf_z) → ∀ (H : Heap) (locs : List Loc), va_P (dC, dI) vwCl (wd_Mo_readFrame w wi wh wb wc wl wo wd wm wp cB cI cJ win won whn wpl wdn wfo wmn wpn wbn wcn wat wnu wif whf wbf wcf wlf) H → va_D A (wd_Mo_readFrame w wi wh wb wc wl wo wd wm wp cB cI cJ win won whn wpl wdn wfo wmn wpn wbn wcn wat wnu wif whf wbf wcf wlf) → va_S A s.heap H locs → ∀ (ls : Array Slot), lv_has ls 11 [(0, .ref w), (1, .int x1), (3, .int x3), (4, .int x4), (5, .int x5), (6, .int x6), (7, .int x7)] → W p l e rm_Mo_readFrame s m args below meth c H locs 0 0 (MQ below (sQi (dC, dI) vwCl [(cB, .byte), (cI, .int), (cJ, .long)] A r_z (wd_Mo_readFrame w wi wh wb wc wl wo wd wm wp cB cI cJ win won whn wpl_z wdn wfo wmn wpn wbn_z wcn_z wat_z wnu_z wif whf wbf_z wcf_z wlf_z)) args s 0 0 A) (F0 m 262 ls [])) (hf : j_Mo_readFrame_308 N x1 x3 x4 x6 x8 t0 win whn wpl wbn wcn wat wnu wif whf wbf wcf wlf kh262 = some (r_z, wpl_z, wbn_z, wcn_z, wat_z, wnu_z, wbf_z, wcf_z, wlf_z)) (hP : va_P (dC, dI) vwCl (wd_Mo_readFrame w wi wh wb wc wl wo wd wm wp cB cI cJ win won whn wpl wdn wfo wmn wpn wbn wcn wat wnu wif whf wbf wcf wlf) H) (hD : va_D A (wd_Mo_readFrame w wi wh wb wc wl wo wd wm wp cB cI cJ win won whn wpl wdn wfo wmn wpn wbn wcn wat wnu wif whf wbf wcf wlf)) (hS : va_S A s.heap H locs) (hl : lv_has ls 11 [(0, .ref w), (1, .int x1), (3, .int x3), (4, .int x4), (5, .int x5), (6, .int x6), (8, .long x8)]) : W p l e rm_Mo_readFrame s m args below meth c H locs 0 0 (MQ below (sQi (dC, dI) vwCl [(cB, .byte), (cI, .int), (cJ, .long)] A r_z (wd_Mo_readFrame w wi wh wb wc wl wo wd wm wp cB cI cJ win won whn wpl_z wdn wfo wmn wpn wbn_z wcn_z wat_z wnu_z wif whf wbf_z wcf_z wlf_z)) args s 0 0 A) (F0 m 308 ls [.int t0]) := by
  obtain ⟨hx, hb, hml, hown, hts, hr, hlocks, hZ⟩ := id C
  unfold j_Mo_readFrame_308 at hf
  refine lv_istore (lv' := [(7, .int t0), (0, .ref w), (1, .int x1), (3, .int x3), (4, .int x4), (5, .int x5), (6, .int x6), (8, .long x8)]) hx hb d_Mo_readFrame_308 hl (by decide) rfl (fun ls hl => ?_)
  refine lv_iload hx hb d_Mo_readFrame_310 (lv_at hl 0 rfl) ?_
  refine lv_if_eq (tgt := 337) hx hb d_Mo_readFrame_312 (by decide) (fun c_312 => ?_) (fun c_312 => ?_)
  · have hf := br_pos c_312 hf
    refine lv_iconst (v := 0) hx hb d_Mo_readFrame_337 (by decide) ?_
    exact k_Mo_readFrame_338 C hK hA x1 x3 x4 x5 x6 t0 (0 : Int32) win won whn wpl wdn wfo wmn wpn wbn wcn wat wnu wif whf wbf wcf wlf kh262 ih262 hf hP hD hS (lv_sub hl [1, 2, 3, 4, 5, 6, 0] rfl)
  · have hf := br_neg c_312 hf
    refine lv_aload_n hx hb d_Mo_readFrame_315 rfl (lv_at hl 1 rfl) ?_
    refine lv_lload hx hb d_Mo_readFrame_316 (lv_at hl 7 rfl) ?_
    refine lv_iload_n hx hb d_Mo_readFrame_318 rfl (lv_at hl 3 rfl) ?_
    refine lv_iconst (v := 1) hx hb d_Mo_readFrame_319 (by decide) ?_
    refine lv_bipush (v := 8) hx hb d_Mo_readFrame_320 (by decide) ?_
    refine lv_iconst (v := 2) hx hb d_Mo_readFrame_322 (by decide) ?_
    refine lv_iload hx hb d_Mo_readFrame_323 (lv_at hl 4 rfl) ?_
    refine lv_imul hx hb d_Mo_readFrame_325 ?_
    refine lv_iadd hx hb d_Mo_readFrame_326 ?_
    refine lv_ishl hx hb d_Mo_readFrame_327 ?_
    refine lv_iload hx hb d_Mo_readFrame_328 (lv_at hl 6 rfl) ?_
    refine lv_iload_n hx hb d_Mo_readFrame_330 rfl (lv_at hl 2 rfl) ?_
    obtain ⟨r331, wpl_331, wbn_331, wcn_331, wat_331, wnu_331, wbf_331, wcf_331, wlf_331, hc331, hf⟩ := bd9_some hf
    refine s_Vi (As := [.long x8, .int x3, .int ((1 : Int32) <<< (((8 : Int32) + ((2 : Int32) * x4)) &&& 31)), .int x6, .int x1]) (rest := []) (wr := []) (ws' := wd_Mo_readFrame w wi wh wb wc wl wo wd wm wp cB cI cJ win won whn wpl_331 wdn wfo wmn wpn wbn_331 wcn_331 wat_331 wnu_331 wif whf wbf_331 wcf_331 wlf_331) C.call (c_Mo_readPart l dC dI cB cI cJ w wi wh wb wc wl wo wd wm wp  win won whn wpl wdn wfo wmn wpn wbn wcn wat wnu wif whf wbf wcf wlf x8 x3 ((1 : Int32) <<< (((8 : Int32) + ((2 : Int32) * x4)) &&& 31)) x6 x1 hc331) (cwV 5 hts (gd_V w_480 w_481 w_482 w_365 w_483) rfl rfl rfl ⟨rfl, hd_Mo_readPart⟩ ⟨Nat.le_of_ble_eq_true rfl, Nat.le_of_ble_eq_true rfl⟩) rfl hl.1 rfl (Nat.le_of_ble_eq_true rfl) d_Mo_readFrame_331 ⟨Nat.le_of_ble_eq_true rfl, Nat.le_of_ble_eq_true rfl⟩ hZ hK hP hD hS hA 7 0 rfl rfl [0, 1, 2, 3, 4, 5] [] [0, 1, 2, 3, 4, 5] rfl rfl rfl rfl (by decide) rfl rfl (fun H locs hP hD hS => ?_)
    refine lv_goto (tgt := 338) hx hb d_Mo_readFrame_334 (by decide) ?_
    exact k_Mo_readFrame_338 C hK hA x1 x3 x4 x5 x6 t0 r331 win won whn wpl_331 wdn wfo wmn wpn wbn_331 wcn_331 wat_331 wnu_331 wif whf wbf_331 wcf_331 wlf_331 kh262 ih262 hf hP hD hS (lv_sub hl [1, 2, 3, 4, 5, 6, 0] rfl)
noncomputable def b_Mo_readFrame_262 (N : Nat) (x1 : Int32) (x3 : Int32) (x4 : Int32) (x5 : Int32) (x6 : Int32) (win : Int32) (whn : Int32) (wif : Nat → Int32) (whf : Nat → Int32)  (kh262 : Int32 → Int32 → Int32 → Int32 → Int32 → Int32 → (Nat → Int32) → (Nat → Int32) → (Nat → Int64) → Option (Int32 × Int32 × Int32 × Int32 × Int32 × Int32 × (Nat → Int32) × (Nat → Int32) × (Nat → Int64))) (x7 : Int32) (wpl : Int32) (wbn : Int32) (wcn : Int32) (wat : Int32) (wnu : Int32) (wbf : Nat → Int32) (wcf : Nat → Int32) (wlf : Nat → Int64) : Option (Int32 × Int32 × Int32 × Int32 × Int32 × Int32 × (Nat → Int32) × (Nat → Int32) × (Nat → Int64)) :=
  (if x7 = 0 then (if (x3 &&& (4 : Int32)) = 0 then (j_Mo_readFrame_445 N x3 x5 x6 wpl wbn wcn wat wnu wif wbf wcf wlf ) else bd1 (f_Mo_has (4 : Int32) win wat) (fun r381 => (if r381 = 0 then bd2 (f_Mo_fault (1 : Int32) win) (fun r393 wpl_393 => (some (r393, wpl_393, wbn, wcn, wat, wnu, wbf, wcf, wlf) : Option (Int32 × Int32 × Int32 × Int32 × Int32 × Int32 × (Nat → Int32) × (Nat → Int32) × (Nat → Int64)))) else bd1 (f_Mo_numberAt N wat (4 : Int32) wif) (fun r403 => bd2 (f_Mo_sumOf N 8000 x6 wcn wlf wcf) (fun r417 wlf_417 => (if (lg_cmp r403 r417) = 0 then (j_Mo_readFrame_445 N x3 x5 x6 wpl wbn wcn (wat + (4 : Int32)) wnu wif wbf wcf wlf_417 ) else bd2 (f_Mo_fault (10 : Int32) wat) (fun r431 wpl_431 => (some (r431, wpl_431, wbn, wcn, wat, wnu, wbf, wcf, wlf_417) : Option (Int32 × Int32 × Int32 × Int32 × Int32 × Int32 × (Nat → Int32) × (Nat → Int32) × (Nat → Int64)))))))))) else bd1 (f_Mo_has (4 : Int32) win wat) (fun r269 => (if r269 = 0 then bd2 (f_Mo_fault (1 : Int32) win) (fun r281 wpl_281 => (some (r281, wpl_281, wbn, wcn, wat, wnu, wbf, wcf, wlf) : Option (Int32 × Int32 × Int32 × Int32 × Int32 × Int32 × (Nat → Int32) × (Nat → Int32) × (Nat → Int64)))) else bd1 (f_Mo_numberAt N wat (4 : Int32) wif) (fun r291 => (if (lg_cmp r291 (0 : Int64)) = 0 then (j_Mo_readFrame_308 N x1 x3 x4 x6 r291 (0 : Int32) win whn wpl wbn wcn wat wnu wif whf wbf wcf wlf kh262) else (j_Mo_readFrame_308 N x1 x3 x4 x6 r291 (1 : Int32) win whn wpl wbn wcn wat wnu wif whf wbf wcf wlf kh262))))))
set_option maxHeartbeats 4000000 in
set_option maxRecDepth 100000 in
theorem k_Mo_readFrame_262 {r_z : Int32} {wpl_z : Int32} {wbn_z : Int32} {wcn_z : Int32} {wat_z : Int32} {wnu_z : Int32} {wbf_z : Nat → Int32} {wcf_z : Nat → Int32} {wlf_z : Nat → Int64} (C : Fx p s m args meth c cd_Mo_readFrame 11 R_Mo lw_g (some .int)) (hK : va_K (dC, dI) vwCl [(cB, .byte), (cI, .int), (cJ, .long)] s) (hA : ∀ q, s.heap.size ≤ q → A q) (x1 : Int32) (x3 : Int32) (x4 : Int32) (x5 : Int32) (x6 : Int32) (win : Int32) (won : Int32) (whn : Int32) (wdn : Int32) (wfo : Int32) (wmn : Int32) (wpn : Int32) (wif : Nat → Int32) (whf : Nat → Int32)  : ∀ (n : Nat) (x7 : Int32) (wpl : Int32) (wbn : Int32) (wcn : Int32) (wat : Int32) (wnu : Int32) (wbf : Nat → Int32) (wcf : Nat → Int32) (wlf : Nat → Int64), loop9 (b_Mo_readFrame_262 N x1 x3 x4 x5 x6 win whn wif whf ) n x7 wpl wbn wcn wat wnu wbf wcf wlf = some (r_z, wpl_z, wbn_z, wcn_z, wat_z, wnu_z, wbf_z, wcf_z, wlf_z) → ∀ (H : Heap) (locs : List Loc), va_P (dC, dI) vwCl (wd_Mo_readFrame w wi wh wb wc wl wo wd wm wp cB cI cJ win won whn wpl wdn wfo wmn wpn wbn wcn wat wnu wif whf wbf wcf wlf) H → va_D A (wd_Mo_readFrame w wi wh wb wc wl wo wd wm wp cB cI cJ win won whn wpl wdn wfo wmn wpn wbn wcn wat wnu wif whf wbf wcf wlf) → va_S A s.heap H locs → ∀ (ls : Array Slot), lv_has ls 11 [(0, .ref w), (1, .int x1), (3, .int x3), (4, .int x4), (5, .int x5), (6, .int x6), (7, .int x7)] → W p l e rm_Mo_readFrame s m args below meth c H locs 0 0 (MQ below (sQi (dC, dI) vwCl [(cB, .byte), (cI, .int), (cJ, .long)] A r_z (wd_Mo_readFrame w wi wh wb wc wl wo wd wm wp cB cI cJ win won whn wpl_z wdn wfo wmn wpn wbn_z wcn_z wat_z wnu_z wif whf wbf_z wcf_z wlf_z)) args s 0 0 A) (F0 m 262 ls []) := by
  obtain ⟨hx, hb, hml, hown, hts, hr, hlocks, hZ⟩ := id C
  intro n
  induction n with
  | zero => intro x7 wpl wbn wcn wat wnu wbf wcf wlf hf; cases hf
  | succ n ih262 =>
    intro x7 wpl wbn wcn wat wnu wbf wcf wlf hf H locs hP hD hS ls hl
    have hf : b_Mo_readFrame_262 N x1 x3 x4 x5 x6 win whn wif whf  (loop9 (b_Mo_readFrame_262 N x1 x3 x4 x5 x6 win whn wif whf ) n) x7 wpl wbn wcn wat wnu wbf wcf wlf = some (r_z, wpl_z, wbn_z, wcn_z, wat_z, wnu_z, wbf_z, wcf_z, wlf_z) := hf
    generalize loop9 (b_Mo_readFrame_262 N x1 x3 x4 x5 x6 win whn wif whf ) n = kh262 at hf ih262
    unfold b_Mo_readFrame_262 at hf
    refine lv_iload hx hb d_Mo_readFrame_262 (lv_at hl 6 rfl) ?_
    refine lv_if_eq (tgt := 373) hx hb d_Mo_readFrame_264 (by decide) (fun c_264 => ?_) (fun c_264 => ?_)
    · have hf := br_pos c_264 hf
      refine lv_iload_n hx hb d_Mo_readFrame_373 rfl (lv_at hl 2 rfl) ?_
      refine lv_iconst (v := 4) hx hb d_Mo_readFrame_374 (by decide) ?_
      refine lv_iand hx hb d_Mo_readFrame_375 ?_
      refine lv_if_eq (tgt := 445) hx hb d_Mo_readFrame_376 (by decide) (fun c_376 => ?_) (fun c_376 => ?_)
      · have hf := br_pos c_376 hf
        exact k_Mo_readFrame_445 C hK hA x3 x5 x6 win won whn wpl wdn wfo wmn wpn wbn wcn wat wnu wif whf wbf wcf wlf  hf hP hD hS (lv_sub hl [0, 2, 4, 5] rfl)
      · have hf := br_neg c_376 hf
        refine lv_aload_n hx hb d_Mo_readFrame_379 rfl (lv_at hl 0 rfl) ?_
        refine lv_iconst (v := 4) hx hb d_Mo_readFrame_380 (by decide) ?_
        obtain ⟨r381, hc381, hf⟩ := bd1_some hf
        refine s_Vi (As := [.int (4 : Int32)]) (rest := []) (wr := [(wi, .inl (cI, 8000, .inl wif)), (wh, .inl (cI, 8000, .inl whf)), (wb, .inl (cI, 16000, .inl wbf)), (wc, .inl (cI, 8000, .inl wcf)), (wl, .inl (cJ, 4, .inr (.inl wlf)))]) (ws' := wd_Mo_readFrame w wi wh wb wc wl wo wd wm wp cB cI cJ win won whn wpl wdn wfo wmn wpn wbn wcn wat wnu wif whf wbf wcf wlf) C.call (c_Mo_has l dC dI cB cI cJ w wi wo wh wd wm wp wb wc wl  win won whn wpl wdn wfo wmn wpn wbn wcn wat wnu (4 : Int32) hc381) (cwV 1 hts (gd_V w_472 w_473 w_474 w_365 w_475) rfl rfl rfl ⟨rfl, hd_Mo_has⟩ ⟨Nat.le_of_ble_eq_true rfl, Nat.le_of_ble_eq_true rfl⟩) rfl hl.1 rfl (Nat.le_of_ble_eq_true rfl) d_Mo_readFrame_381 ⟨Nat.le_of_ble_eq_true rfl, Nat.le_of_ble_eq_true rfl⟩ hZ hK hP hD hS hA 7 0 rfl rfl [0] [1, 2, 3, 4, 5] [5, 0, 1, 2, 3, 4] rfl rfl rfl rfl (by decide) rfl rfl (fun H locs hP hD hS => ?_)
        refine lv_if_ne (tgt := 397) hx hb d_Mo_readFrame_384 (by decide) (fun c_384 => ?_) (fun c_384 => ?_)
        · have hf := br_neg c_384 hf
          refine lv_aload_n hx hb d_Mo_readFrame_397 rfl (lv_at hl 0 rfl) ?_
          refine lv_aload_n hx hb d_Mo_readFrame_398 rfl (lv_at hl 0 rfl) ?_
          refine va_get (D := (dC, dI)) (ci := 7) (v := .int wat) (C := R_Mo) (T := T_Mo) (N := 21) hx hb hts w_359 hown hK hP 0 rfl rfl 19 (by decide) (hts _ w_368) (fun _ h9 => h9) rfl d_Mo_readFrame_399 ?_
          refine lv_iconst (v := 4) hx hb d_Mo_readFrame_402 (by decide) ?_
          obtain ⟨r403, hc403, hf⟩ := bd1_some hf
          refine s_Vl (As := [.int wat, .int (4 : Int32)]) (rest := []) (wr := [(wh, .inl (cI, 8000, .inl whf)), (wb, .inl (cI, 16000, .inl wbf)), (wc, .inl (cI, 8000, .inl wcf)), (wl, .inl (cJ, 4, .inr (.inl wlf)))]) (ws' := wd_Mo_readFrame w wi wh wb wc wl wo wd wm wp cB cI cJ win won whn wpl wdn wfo wmn wpn wbn wcn wat wnu wif whf wbf wcf wlf) C.call (c_Mo_numberAt l dC dI cB cI cJ w wi wo wh wd wm wp wb wc wl  win won whn wpl wdn wfo wmn wpn wbn wcn wat wnu wif wat (4 : Int32) hc403) (cwV 2 hts (gd_V w_476 w_477 w_478 w_365 w_479) rfl rfl rfl ⟨rfl, hd_Mo_numberAt⟩ ⟨Nat.le_of_ble_eq_true rfl, Nat.le_of_ble_eq_true rfl⟩) rfl hl.1 rfl (Nat.le_of_ble_eq_true rfl) d_Mo_readFrame_403 ⟨Nat.le_of_ble_eq_true rfl, Nat.le_of_ble_eq_true rfl⟩ hZ hK hP hD hS hA 7 0 rfl rfl [0, 1] [2, 3, 4, 5] [4, 5, 0, 1, 2, 3] rfl rfl rfl rfl (by decide) rfl rfl (fun H locs hP hD hS => ?_)
          refine lv_aload_n hx hb d_Mo_readFrame_406 rfl (lv_at hl 0 rfl) ?_
          refine lv_aload_n hx hb d_Mo_readFrame_407 rfl (lv_at hl 0 rfl) ?_
          refine va_get (D := (dC, dI)) (ci := 7) (v := .ref wc) (C := R_Mo) (T := T_Mo) (N := 21) hx hb hts w_359 hown hK hP 0 rfl rfl 16 (by decide) (hts _ w_467) (fun _ h9 => h9) rfl d_Mo_readFrame_408 ?_
          refine lv_iload hx hb d_Mo_readFrame_411 (lv_at hl 5 rfl) ?_
          refine lv_aload_n hx hb d_Mo_readFrame_413 rfl (lv_at hl 0 rfl) ?_
          refine va_get (D := (dC, dI)) (ci := 7) (v := .int wcn) (C := R_Mo) (T := T_Mo) (N := 21) hx hb hts w_359 hown hK hP 0 rfl rfl 17 (by decide) (hts _ w_458) (fun _ h9 => h9) rfl d_Mo_readFrame_414 ?_
          obtain ⟨r417, wlf_417, hc417, hf⟩ := bd2_some hf
          refine s_Vl (As := [.ref wc, .int x6, .int wcn]) (rest := [.long r403]) (wr := [(wi, .inl (cI, 8000, .inl wif)), (wh, .inl (cI, 8000, .inl whf)), (wb, .inl (cI, 16000, .inl wbf))]) (ws' := wd_Mo_readFrame w wi wh wb wc wl wo wd wm wp cB cI cJ win won whn wpl wdn wfo wmn wpn wbn wcn wat wnu wif whf wbf wcf wlf_417) C.call (c_Mo_sumOf l dC dI cB cI cJ w wl wc wi wo wh wd wm wp wb wc 8000 win won whn wpl wdn wfo wmn wpn wbn wcn wat wnu wlf wcf x6 wcn hc417) (cwV 3 hts (gd_V w_449 w_450 w_451 w_365 w_452) rfl rfl rfl ⟨rfl, hd_Mo_sumOf⟩ ⟨Nat.le_of_ble_eq_true rfl, Nat.le_of_ble_eq_true rfl⟩) rfl hl.1 rfl (Nat.le_of_ble_eq_true rfl) d_Mo_readFrame_417 ⟨Nat.le_of_ble_eq_true rfl, Nat.le_of_ble_eq_true rfl⟩ hZ hK hP hD hS hA 7 0 rfl rfl [0, 5, 4] [1, 2, 3] [3, 0, 1, 2, 5, 4] rfl rfl rfl rfl (by decide) rfl rfl (fun H locs hP hD hS => ?_)
          refine W.lcmp hx hb d_Mo_readFrame_420 ?_
          refine lv_if_eq (tgt := 435) hx hb d_Mo_readFrame_421 (by decide) (fun c_421 => ?_) (fun c_421 => ?_)
          · have hf := br_pos c_421 hf
            refine lv_aload_n hx hb d_Mo_readFrame_435 rfl (lv_at hl 0 rfl) ?_
            refine lv_dup hx hb d_Mo_readFrame_436 rfl ?_
            refine va_get (D := (dC, dI)) (ci := 7) (v := .int wat) (C := R_Mo) (T := T_Mo) (N := 21) hx hb hts w_359 hown hK hP 0 rfl rfl 19 (by decide) (hts _ w_368) (fun _ h9 => h9) rfl d_Mo_readFrame_437 ?_
            refine lv_iconst (v := 4) hx hb d_Mo_readFrame_440 (by decide) ?_
            refine lv_iadd hx hb d_Mo_readFrame_441 ?_
            refine va_put (D := (dC, dI)) (ci := 7) (v := .int (wat + (4 : Int32))) (ty := .int) (C := R_Mo) (T := T_Mo) (N := 21) hx hb hts w_359 ty_Mo ty_Mo_ok nm_Mo hown hK hP hD hS 0 rfl rfl 19 (by decide) (hts _ w_368) (fun _ h9 => h9) rfl (by decide +kernel) rfl rfl (Nat.le_of_ble_eq_true rfl) d_Mo_readFrame_442 (fun H locs hP hD hS => ?_)
            have hP : va_P (dC, dI) vwCl (wd_Mo_readFrame w wi wh wb wc wl wo wd wm wp cB cI cJ win won whn wpl wdn wfo wmn wpn wbn wcn (wat + (4 : Int32)) wnu wif whf wbf wcf wlf_417) H := hP
            have hD : va_D A (wd_Mo_readFrame w wi wh wb wc wl wo wd wm wp cB cI cJ win won whn wpl wdn wfo wmn wpn wbn wcn (wat + (4 : Int32)) wnu wif whf wbf wcf wlf_417) := hD
            exact k_Mo_readFrame_445 C hK hA x3 x5 x6 win won whn wpl wdn wfo wmn wpn wbn wcn (wat + (4 : Int32)) wnu wif whf wbf wcf wlf_417  hf hP hD hS (lv_sub hl [0, 2, 4, 5] rfl)
          · have hf := br_neg c_421 hf
            refine lv_aload_n hx hb d_Mo_readFrame_424 rfl (lv_at hl 0 rfl) ?_
            refine lv_bipush (v := 10) hx hb d_Mo_readFrame_425 (by decide) ?_
            refine lv_aload_n hx hb d_Mo_readFrame_427 rfl (lv_at hl 0 rfl) ?_
            refine va_get (D := (dC, dI)) (ci := 7) (v := .int wat) (C := R_Mo) (T := T_Mo) (N := 21) hx hb hts w_359 hown hK hP 0 rfl rfl 19 (by decide) (hts _ w_368) (fun _ h9 => h9) rfl d_Mo_readFrame_428 ?_
            obtain ⟨r431, wpl_431, hc431, hf⟩ := bd2_some hf
            refine s_Vi (As := [.int (10 : Int32), .int wat]) (rest := []) (wr := [(wi, .inl (cI, 8000, .inl wif)), (wh, .inl (cI, 8000, .inl whf)), (wb, .inl (cI, 16000, .inl wbf)), (wc, .inl (cI, 8000, .inl wcf)), (wl, .inl (cJ, 4, .inr (.inl wlf_417)))]) (ws' := wd_Mo_readFrame w wi wh wb wc wl wo wd wm wp cB cI cJ win won whn wpl_431 wdn wfo wmn wpn wbn wcn wat wnu wif whf wbf wcf wlf_417) C.call (c_Mo_fault l dC dI cB cI cJ w wi wo wh wd wm wp wb wc wl  win won whn wpl wdn wfo wmn wpn wbn wcn wat wnu (10 : Int32) wat hc431) (cwV 2 hts (gd_V w_468 w_469 w_470 w_365 w_471) rfl rfl rfl ⟨rfl, hd_Mo_fault⟩ ⟨Nat.le_of_ble_eq_true rfl, Nat.le_of_ble_eq_true rfl⟩) rfl hl.1 rfl (Nat.le_of_ble_eq_true rfl) d_Mo_readFrame_431 ⟨Nat.le_of_ble_eq_true rfl, Nat.le_of_ble_eq_true rfl⟩ hZ hK hP hD hS hA 7 0 rfl rfl [0] [1, 2, 3, 4, 5] [5, 0, 1, 2, 3, 4] rfl rfl rfl rfl (by decide) rfl rfl (fun H locs hP hD hS => ?_)
            cases hf
            exact s_iret hx hb hr hlocks hP hK hD hS d_Mo_readFrame_434
        · have hf := br_pos c_384 hf
          refine lv_aload_n hx hb d_Mo_readFrame_387 rfl (lv_at hl 0 rfl) ?_
          refine lv_iconst (v := 1) hx hb d_Mo_readFrame_388 (by decide) ?_
          refine lv_aload_n hx hb d_Mo_readFrame_389 rfl (lv_at hl 0 rfl) ?_
          refine va_get (D := (dC, dI)) (ci := 7) (v := .int win) (C := R_Mo) (T := T_Mo) (N := 21) hx hb hts w_359 hown hK hP 0 rfl rfl 3 (by decide) (hts _ w_370) (fun _ h9 => h9) rfl d_Mo_readFrame_390 ?_
          obtain ⟨r393, wpl_393, hc393, hf⟩ := bd2_some hf
          refine s_Vi (As := [.int (1 : Int32), .int win]) (rest := []) (wr := [(wi, .inl (cI, 8000, .inl wif)), (wh, .inl (cI, 8000, .inl whf)), (wb, .inl (cI, 16000, .inl wbf)), (wc, .inl (cI, 8000, .inl wcf)), (wl, .inl (cJ, 4, .inr (.inl wlf)))]) (ws' := wd_Mo_readFrame w wi wh wb wc wl wo wd wm wp cB cI cJ win won whn wpl_393 wdn wfo wmn wpn wbn wcn wat wnu wif whf wbf wcf wlf) C.call (c_Mo_fault l dC dI cB cI cJ w wi wo wh wd wm wp wb wc wl  win won whn wpl wdn wfo wmn wpn wbn wcn wat wnu (1 : Int32) win hc393) (cwV 2 hts (gd_V w_468 w_469 w_470 w_365 w_471) rfl rfl rfl ⟨rfl, hd_Mo_fault⟩ ⟨Nat.le_of_ble_eq_true rfl, Nat.le_of_ble_eq_true rfl⟩) rfl hl.1 rfl (Nat.le_of_ble_eq_true rfl) d_Mo_readFrame_393 ⟨Nat.le_of_ble_eq_true rfl, Nat.le_of_ble_eq_true rfl⟩ hZ hK hP hD hS hA 7 0 rfl rfl [0] [1, 2, 3, 4, 5] [5, 0, 1, 2, 3, 4] rfl rfl rfl rfl (by decide) rfl rfl (fun H locs hP hD hS => ?_)
          cases hf
          exact s_iret hx hb hr hlocks hP hK hD hS d_Mo_readFrame_396
    · have hf := br_neg c_264 hf
      refine lv_aload_n hx hb d_Mo_readFrame_267 rfl (lv_at hl 0 rfl) ?_
      refine lv_iconst (v := 4) hx hb d_Mo_readFrame_268 (by decide) ?_
      obtain ⟨r269, hc269, hf⟩ := bd1_some hf
      refine s_Vi (As := [.int (4 : Int32)]) (rest := []) (wr := [(wi, .inl (cI, 8000, .inl wif)), (wh, .inl (cI, 8000, .inl whf)), (wb, .inl (cI, 16000, .inl wbf)), (wc, .inl (cI, 8000, .inl wcf)), (wl, .inl (cJ, 4, .inr (.inl wlf)))]) (ws' := wd_Mo_readFrame w wi wh wb wc wl wo wd wm wp cB cI cJ win won whn wpl wdn wfo wmn wpn wbn wcn wat wnu wif whf wbf wcf wlf) C.call (c_Mo_has l dC dI cB cI cJ w wi wo wh wd wm wp wb wc wl  win won whn wpl wdn wfo wmn wpn wbn wcn wat wnu (4 : Int32) hc269) (cwV 1 hts (gd_V w_472 w_473 w_474 w_365 w_475) rfl rfl rfl ⟨rfl, hd_Mo_has⟩ ⟨Nat.le_of_ble_eq_true rfl, Nat.le_of_ble_eq_true rfl⟩) rfl hl.1 rfl (Nat.le_of_ble_eq_true rfl) d_Mo_readFrame_269 ⟨Nat.le_of_ble_eq_true rfl, Nat.le_of_ble_eq_true rfl⟩ hZ hK hP hD hS hA 7 0 rfl rfl [0] [1, 2, 3, 4, 5] [5, 0, 1, 2, 3, 4] rfl rfl rfl rfl (by decide) rfl rfl (fun H locs hP hD hS => ?_)
      refine lv_if_ne (tgt := 285) hx hb d_Mo_readFrame_272 (by decide) (fun c_272 => ?_) (fun c_272 => ?_)
      · have hf := br_neg c_272 hf
        refine lv_aload_n hx hb d_Mo_readFrame_285 rfl (lv_at hl 0 rfl) ?_
        refine lv_aload_n hx hb d_Mo_readFrame_286 rfl (lv_at hl 0 rfl) ?_
        refine va_get (D := (dC, dI)) (ci := 7) (v := .int wat) (C := R_Mo) (T := T_Mo) (N := 21) hx hb hts w_359 hown hK hP 0 rfl rfl 19 (by decide) (hts _ w_368) (fun _ h9 => h9) rfl d_Mo_readFrame_287 ?_
        refine lv_iconst (v := 4) hx hb d_Mo_readFrame_290 (by decide) ?_
        obtain ⟨r291, hc291, hf⟩ := bd1_some hf
        refine s_Vl (As := [.int wat, .int (4 : Int32)]) (rest := []) (wr := [(wh, .inl (cI, 8000, .inl whf)), (wb, .inl (cI, 16000, .inl wbf)), (wc, .inl (cI, 8000, .inl wcf)), (wl, .inl (cJ, 4, .inr (.inl wlf)))]) (ws' := wd_Mo_readFrame w wi wh wb wc wl wo wd wm wp cB cI cJ win won whn wpl wdn wfo wmn wpn wbn wcn wat wnu wif whf wbf wcf wlf) C.call (c_Mo_numberAt l dC dI cB cI cJ w wi wo wh wd wm wp wb wc wl  win won whn wpl wdn wfo wmn wpn wbn wcn wat wnu wif wat (4 : Int32) hc291) (cwV 2 hts (gd_V w_476 w_477 w_478 w_365 w_479) rfl rfl rfl ⟨rfl, hd_Mo_numberAt⟩ ⟨Nat.le_of_ble_eq_true rfl, Nat.le_of_ble_eq_true rfl⟩) rfl hl.1 rfl (Nat.le_of_ble_eq_true rfl) d_Mo_readFrame_291 ⟨Nat.le_of_ble_eq_true rfl, Nat.le_of_ble_eq_true rfl⟩ hZ hK hP hD hS hA 7 0 rfl rfl [0, 1] [2, 3, 4, 5] [4, 5, 0, 1, 2, 3] rfl rfl rfl rfl (by decide) rfl rfl (fun H locs hP hD hS => ?_)
        refine lv_lstore (lv' := [(8, .long r291), (0, .ref w), (1, .int x1), (3, .int x3), (4, .int x4), (5, .int x5), (6, .int x6), (7, .int x7)]) hx hb d_Mo_readFrame_294 hl (by decide) rfl (fun ls hl => ?_)
        refine lv_lload hx hb d_Mo_readFrame_296 (lv_at hl 0 rfl) ?_
        refine lv_lconst (v := 0) hx hb d_Mo_readFrame_298 (by decide) ?_
        refine W.lcmp hx hb d_Mo_readFrame_299 ?_
        refine lv_if_eq (tgt := 307) hx hb d_Mo_readFrame_300 (by decide) (fun c_300 => ?_) (fun c_300 => ?_)
        · have hf := br_pos c_300 hf
          refine lv_iconst (v := 0) hx hb d_Mo_readFrame_307 (by decide) ?_
          exact k_Mo_readFrame_308 C hK hA x1 x3 x4 x5 x6 r291 (0 : Int32) win won whn wpl wdn wfo wmn wpn wbn wcn wat wnu wif whf wbf wcf wlf kh262 ih262 hf hP hD hS (lv_sub hl [1, 2, 3, 4, 5, 6, 0] rfl)
        · have hf := br_neg c_300 hf
          refine lv_iconst (v := 1) hx hb d_Mo_readFrame_303 (by decide) ?_
          refine lv_goto (tgt := 308) hx hb d_Mo_readFrame_304 (by decide) ?_
          exact k_Mo_readFrame_308 C hK hA x1 x3 x4 x5 x6 r291 (1 : Int32) win won whn wpl wdn wfo wmn wpn wbn wcn wat wnu wif whf wbf wcf wlf kh262 ih262 hf hP hD hS (lv_sub hl [1, 2, 3, 4, 5, 6, 0] rfl)
      · have hf := br_pos c_272 hf
        refine lv_aload_n hx hb d_Mo_readFrame_275 rfl (lv_at hl 0 rfl) ?_
        refine lv_iconst (v := 1) hx hb d_Mo_readFrame_276 (by decide) ?_
        refine lv_aload_n hx hb d_Mo_readFrame_277 rfl (lv_at hl 0 rfl) ?_
        refine va_get (D := (dC, dI)) (ci := 7) (v := .int win) (C := R_Mo) (T := T_Mo) (N := 21) hx hb hts w_359 hown hK hP 0 rfl rfl 3 (by decide) (hts _ w_370) (fun _ h9 => h9) rfl d_Mo_readFrame_278 ?_
        obtain ⟨r281, wpl_281, hc281, hf⟩ := bd2_some hf
        refine s_Vi (As := [.int (1 : Int32), .int win]) (rest := []) (wr := [(wi, .inl (cI, 8000, .inl wif)), (wh, .inl (cI, 8000, .inl whf)), (wb, .inl (cI, 16000, .inl wbf)), (wc, .inl (cI, 8000, .inl wcf)), (wl, .inl (cJ, 4, .inr (.inl wlf)))]) (ws' := wd_Mo_readFrame w wi wh wb wc wl wo wd wm wp cB cI cJ win won whn wpl_281 wdn wfo wmn wpn wbn wcn wat wnu wif whf wbf wcf wlf) C.call (c_Mo_fault l dC dI cB cI cJ w wi wo wh wd wm wp wb wc wl  win won whn wpl wdn wfo wmn wpn wbn wcn wat wnu (1 : Int32) win hc281) (cwV 2 hts (gd_V w_468 w_469 w_470 w_365 w_471) rfl rfl rfl ⟨rfl, hd_Mo_fault⟩ ⟨Nat.le_of_ble_eq_true rfl, Nat.le_of_ble_eq_true rfl⟩) rfl hl.1 rfl (Nat.le_of_ble_eq_true rfl) d_Mo_readFrame_281 ⟨Nat.le_of_ble_eq_true rfl, Nat.le_of_ble_eq_true rfl⟩ hZ hK hP hD hS hA 7 0 rfl rfl [0] [1, 2, 3, 4, 5] [5, 0, 1, 2, 3, 4] rfl rfl rfl rfl (by decide) rfl rfl (fun H locs hP hD hS => ?_)
        cases hf
        exact s_iret hx hb hr hlocks hP hK hD hS d_Mo_readFrame_284
noncomputable def j_Mo_readFrame_180 (N : Nat) (x1 : Int32) (x2 : Int32) (x3 : Int32) (x4 : Int32) (x5 : Int32) (win : Int32) (whn : Int32) (wpl : Int32) (wbn : Int32) (wcn : Int32) (wat : Int32) (wnu : Int32) (wif : Nat → Int32) (whf : Nat → Int32) (wbf : Nat → Int32) (wcf : Nat → Int32) (wlf : Nat → Int64)  : Option (Int32 × Int32 × Int32 × Int32 × Int32 × Int32 × (Nat → Int32) × (Nat → Int32) × (Nat → Int64)) :=
  bd1 (f_Mo_has (1 : Int32) win wat) (fun r182 => (if r182 = 0 then bd2 (f_Mo_fault (1 : Int32) win) (fun r194 wpl_194 => (some (r194, wpl_194, wbn, wcn, wat, wnu, wbf, wcf, wlf) : Option (Int32 × Int32 × Int32 × Int32 × Int32 × Int32 × (Nat → Int32) × (Nat → Int32) × (Nat → Int64)))) else as_ (vp_in wat 8000) (bd2 (f_Mo_sumOf N 8000 x2 wat wlf wif) (fun r218 wlf_218 => (if (lg_cmp ((wif wat.toNatClampNeg).toInt64) ((sr64 r218 (8 : Int32)) &&& (255 : Int64))) = 0 then (loop9 (b_Mo_readFrame_262 N x1 x3 x4 x5 wcn win whn wif whf ) N (1 : Int32) wpl wbn wcn (wat + (1 : Int32)) wnu wbf wcf wlf_218) else bd2 (f_Mo_fault (6 : Int32) wat) (fun r239 wpl_239 => (some (r239, wpl_239, wbn, wcn, wat, wnu, wbf, wcf, wlf_218) : Option (Int32 × Int32 × Int32 × Int32 × Int32 × Int32 × (Nat → Int32) × (Nat → Int32) × (Nat → Int64)))))))))
set_option maxHeartbeats 4000000 in
set_option maxRecDepth 100000 in
theorem k_Mo_readFrame_180 {r_z : Int32} {wpl_z : Int32} {wbn_z : Int32} {wcn_z : Int32} {wat_z : Int32} {wnu_z : Int32} {wbf_z : Nat → Int32} {wcf_z : Nat → Int32} {wlf_z : Nat → Int64} (C : Fx p s m args meth c cd_Mo_readFrame 11 R_Mo lw_g (some .int)) (hK : va_K (dC, dI) vwCl [(cB, .byte), (cI, .int), (cJ, .long)] s) (hA : ∀ q, s.heap.size ≤ q → A q) (x1 : Int32) (x2 : Int32) (x3 : Int32) (x4 : Int32) (x5 : Int32) (win : Int32) (won : Int32) (whn : Int32) (wpl : Int32) (wdn : Int32) (wfo : Int32) (wmn : Int32) (wpn : Int32) (wbn : Int32) (wcn : Int32) (wat : Int32) (wnu : Int32) (wif : Nat → Int32) (whf : Nat → Int32) (wbf : Nat → Int32) (wcf : Nat → Int32) (wlf : Nat → Int64)  (hf : j_Mo_readFrame_180 N x1 x2 x3 x4 x5 win whn wpl wbn wcn wat wnu wif whf wbf wcf wlf  = some (r_z, wpl_z, wbn_z, wcn_z, wat_z, wnu_z, wbf_z, wcf_z, wlf_z)) (hP : va_P (dC, dI) vwCl (wd_Mo_readFrame w wi wh wb wc wl wo wd wm wp cB cI cJ win won whn wpl wdn wfo wmn wpn wbn wcn wat wnu wif whf wbf wcf wlf) H) (hD : va_D A (wd_Mo_readFrame w wi wh wb wc wl wo wd wm wp cB cI cJ win won whn wpl wdn wfo wmn wpn wbn wcn wat wnu wif whf wbf wcf wlf)) (hS : va_S A s.heap H locs) (hl : lv_has ls 11 [(0, .ref w), (1, .int x1), (2, .int x2), (3, .int x3), (4, .int x4), (5, .int x5)]) : W p l e rm_Mo_readFrame s m args below meth c H locs 0 0 (MQ below (sQi (dC, dI) vwCl [(cB, .byte), (cI, .int), (cJ, .long)] A r_z (wd_Mo_readFrame w wi wh wb wc wl wo wd wm wp cB cI cJ win won whn wpl_z wdn wfo wmn wpn wbn_z wcn_z wat_z wnu_z wif whf wbf_z wcf_z wlf_z)) args s 0 0 A) (F0 m 180 ls []) := by
  obtain ⟨hx, hb, hml, hown, hts, hr, hlocks, hZ⟩ := id C
  unfold j_Mo_readFrame_180 at hf
  refine lv_aload_n hx hb d_Mo_readFrame_180 rfl (lv_at hl 0 rfl) ?_
  refine lv_iconst (v := 1) hx hb d_Mo_readFrame_181 (by decide) ?_
  obtain ⟨r182, hc182, hf⟩ := bd1_some hf
  refine s_Vi (As := [.int (1 : Int32)]) (rest := []) (wr := [(wi, .inl (cI, 8000, .inl wif)), (wh, .inl (cI, 8000, .inl whf)), (wb, .inl (cI, 16000, .inl wbf)), (wc, .inl (cI, 8000, .inl wcf)), (wl, .inl (cJ, 4, .inr (.inl wlf)))]) (ws' := wd_Mo_readFrame w wi wh wb wc wl wo wd wm wp cB cI cJ win won whn wpl wdn wfo wmn wpn wbn wcn wat wnu wif whf wbf wcf wlf) C.call (c_Mo_has l dC dI cB cI cJ w wi wo wh wd wm wp wb wc wl  win won whn wpl wdn wfo wmn wpn wbn wcn wat wnu (1 : Int32) hc182) (cwV 1 hts (gd_V w_472 w_473 w_474 w_365 w_475) rfl rfl rfl ⟨rfl, hd_Mo_has⟩ ⟨Nat.le_of_ble_eq_true rfl, Nat.le_of_ble_eq_true rfl⟩) rfl hl.1 rfl (Nat.le_of_ble_eq_true rfl) d_Mo_readFrame_182 ⟨Nat.le_of_ble_eq_true rfl, Nat.le_of_ble_eq_true rfl⟩ hZ hK hP hD hS hA 7 0 rfl rfl [0] [1, 2, 3, 4, 5] [5, 0, 1, 2, 3, 4] rfl rfl rfl rfl (by decide) rfl rfl (fun H locs hP hD hS => ?_)
  refine lv_if_ne (tgt := 198) hx hb d_Mo_readFrame_185 (by decide) (fun c_185 => ?_) (fun c_185 => ?_)
  · have hf := br_neg c_185 hf
    refine lv_aload_n hx hb d_Mo_readFrame_198 rfl (lv_at hl 0 rfl) ?_
    refine va_get (D := (dC, dI)) (ci := 7) (v := .ref wi) (C := R_Mo) (T := T_Mo) (N := 21) hx hb hts w_359 hown hK hP 0 rfl rfl 0 (by decide) (hts _ w_369) (fun _ h9 => h9) rfl d_Mo_readFrame_199 ?_
    refine lv_aload_n hx hb d_Mo_readFrame_202 rfl (lv_at hl 0 rfl) ?_
    refine va_get (D := (dC, dI)) (ci := 7) (v := .int wat) (C := R_Mo) (T := T_Mo) (N := 21) hx hb hts w_359 hown hK hP 0 rfl rfl 19 (by decide) (hts _ w_368) (fun _ h9 => h9) rfl d_Mo_readFrame_203 ?_
    obtain ⟨h_in, hf⟩ := as_some hf
    refine va_iald hx hb hK hP 1 1 rfl rfl h_in d_Mo_readFrame_206 ?_
    refine lv_i2l (v := ((wif wat.toNatClampNeg).toInt64)) hx hb d_Mo_readFrame_207 rfl ?_
    refine lv_aload_n hx hb d_Mo_readFrame_208 rfl (lv_at hl 0 rfl) ?_
    refine lv_aload_n hx hb d_Mo_readFrame_209 rfl (lv_at hl 0 rfl) ?_
    refine va_get (D := (dC, dI)) (ci := 7) (v := .ref wi) (C := R_Mo) (T := T_Mo) (N := 21) hx hb hts w_359 hown hK hP 0 rfl rfl 0 (by decide) (hts _ w_369) (fun _ h9 => h9) rfl d_Mo_readFrame_210 ?_
    refine lv_iload_n hx hb d_Mo_readFrame_213 rfl (lv_at hl 2 rfl) ?_
    refine lv_aload_n hx hb d_Mo_readFrame_214 rfl (lv_at hl 0 rfl) ?_
    refine va_get (D := (dC, dI)) (ci := 7) (v := .int wat) (C := R_Mo) (T := T_Mo) (N := 21) hx hb hts w_359 hown hK hP 0 rfl rfl 19 (by decide) (hts _ w_368) (fun _ h9 => h9) rfl d_Mo_readFrame_215 ?_
    obtain ⟨r218, wlf_218, hc218, hf⟩ := bd2_some hf
    refine s_Vl (As := [.ref wi, .int x2, .int wat]) (rest := [.long ((wif wat.toNatClampNeg).toInt64)]) (wr := [(wh, .inl (cI, 8000, .inl whf)), (wb, .inl (cI, 16000, .inl wbf)), (wc, .inl (cI, 8000, .inl wcf))]) (ws' := wd_Mo_readFrame w wi wh wb wc wl wo wd wm wp cB cI cJ win won whn wpl wdn wfo wmn wpn wbn wcn wat wnu wif whf wbf wcf wlf_218) C.call (c_Mo_sumOf l dC dI cB cI cJ w wl wi wi wo wh wd wm wp wb wc 8000 win won whn wpl wdn wfo wmn wpn wbn wcn wat wnu wlf wif x2 wat hc218) (cwV 3 hts (gd_V w_449 w_450 w_451 w_365 w_452) rfl rfl rfl ⟨rfl, hd_Mo_sumOf⟩ ⟨Nat.le_of_ble_eq_true rfl, Nat.le_of_ble_eq_true rfl⟩) rfl hl.1 rfl (Nat.le_of_ble_eq_true rfl) d_Mo_readFrame_218 ⟨Nat.le_of_ble_eq_true rfl, Nat.le_of_ble_eq_true rfl⟩ hZ hK hP hD hS hA 7 0 rfl rfl [0, 5, 1] [2, 3, 4] [3, 5, 0, 1, 2, 4] rfl rfl rfl rfl (by decide) rfl rfl (fun H locs hP hD hS => ?_)
    refine lv_bipush (v := 8) hx hb d_Mo_readFrame_221 (by decide) ?_
    refine lv_lshr (v := (sr64 r218 (8 : Int32))) hx hb d_Mo_readFrame_223 rfl ?_
    refine lv_ldc2 (v := 255) hx hb hown (hts _ w_420) d_Mo_readFrame_224 ?_
    refine lv_land hx hb d_Mo_readFrame_227 ?_
    refine W.lcmp hx hb d_Mo_readFrame_228 ?_
    refine lv_if_eq (tgt := 243) hx hb d_Mo_readFrame_229 (by decide) (fun c_229 => ?_) (fun c_229 => ?_)
    · have hf := br_pos c_229 hf
      refine lv_aload_n hx hb d_Mo_readFrame_243 rfl (lv_at hl 0 rfl) ?_
      refine lv_dup hx hb d_Mo_readFrame_244 rfl ?_
      refine va_get (D := (dC, dI)) (ci := 7) (v := .int wat) (C := R_Mo) (T := T_Mo) (N := 21) hx hb hts w_359 hown hK hP 0 rfl rfl 19 (by decide) (hts _ w_368) (fun _ h9 => h9) rfl d_Mo_readFrame_245 ?_
      refine lv_iconst (v := 1) hx hb d_Mo_readFrame_248 (by decide) ?_
      refine lv_iadd hx hb d_Mo_readFrame_249 ?_
      refine va_put (D := (dC, dI)) (ci := 7) (v := .int (wat + (1 : Int32))) (ty := .int) (C := R_Mo) (T := T_Mo) (N := 21) hx hb hts w_359 ty_Mo ty_Mo_ok nm_Mo hown hK hP hD hS 0 rfl rfl 19 (by decide) (hts _ w_368) (fun _ h9 => h9) rfl (by decide +kernel) rfl rfl (Nat.le_of_ble_eq_true rfl) d_Mo_readFrame_250 (fun H locs hP hD hS => ?_)
      have hP : va_P (dC, dI) vwCl (wd_Mo_readFrame w wi wh wb wc wl wo wd wm wp cB cI cJ win won whn wpl wdn wfo wmn wpn wbn wcn (wat + (1 : Int32)) wnu wif whf wbf wcf wlf_218) H := hP
      have hD : va_D A (wd_Mo_readFrame w wi wh wb wc wl wo wd wm wp cB cI cJ win won whn wpl wdn wfo wmn wpn wbn wcn (wat + (1 : Int32)) wnu wif whf wbf wcf wlf_218) := hD
      refine lv_aload_n hx hb d_Mo_readFrame_253 rfl (lv_at hl 0 rfl) ?_
      refine va_get (D := (dC, dI)) (ci := 7) (v := .int wcn) (C := R_Mo) (T := T_Mo) (N := 21) hx hb hts w_359 hown hK hP 0 rfl rfl 17 (by decide) (hts _ w_458) (fun _ h9 => h9) rfl d_Mo_readFrame_254 ?_
      refine lv_istore (lv' := [(6, .int wcn), (0, .ref w), (1, .int x1), (2, .int x2), (3, .int x3), (4, .int x4), (5, .int x5)]) hx hb d_Mo_readFrame_257 hl (by decide) rfl (fun ls hl => ?_)
      refine lv_iconst (v := 1) hx hb d_Mo_readFrame_259 (by decide) ?_
      refine lv_istore (lv' := [(7, .int (1 : Int32)), (6, .int wcn), (0, .ref w), (1, .int x1), (2, .int x2), (3, .int x3), (4, .int x4), (5, .int x5)]) hx hb d_Mo_readFrame_260 hl (by decide) rfl (fun ls hl => ?_)
      exact k_Mo_readFrame_262 C hK hA x1 x3 x4 x5 wcn win won whn wdn wfo wmn wpn wif whf  N (1 : Int32) wpl wbn wcn (wat + (1 : Int32)) wnu wbf wcf wlf_218 hf _ _ hP hD hS _ (lv_sub hl [2, 3, 5, 6, 7, 1, 0] rfl)
    · have hf := br_neg c_229 hf
      refine lv_aload_n hx hb d_Mo_readFrame_232 rfl (lv_at hl 0 rfl) ?_
      refine lv_bipush (v := 6) hx hb d_Mo_readFrame_233 (by decide) ?_
      refine lv_aload_n hx hb d_Mo_readFrame_235 rfl (lv_at hl 0 rfl) ?_
      refine va_get (D := (dC, dI)) (ci := 7) (v := .int wat) (C := R_Mo) (T := T_Mo) (N := 21) hx hb hts w_359 hown hK hP 0 rfl rfl 19 (by decide) (hts _ w_368) (fun _ h9 => h9) rfl d_Mo_readFrame_236 ?_
      obtain ⟨r239, wpl_239, hc239, hf⟩ := bd2_some hf
      refine s_Vi (As := [.int (6 : Int32), .int wat]) (rest := []) (wr := [(wi, .inl (cI, 8000, .inl wif)), (wh, .inl (cI, 8000, .inl whf)), (wb, .inl (cI, 16000, .inl wbf)), (wc, .inl (cI, 8000, .inl wcf)), (wl, .inl (cJ, 4, .inr (.inl wlf_218)))]) (ws' := wd_Mo_readFrame w wi wh wb wc wl wo wd wm wp cB cI cJ win won whn wpl_239 wdn wfo wmn wpn wbn wcn wat wnu wif whf wbf wcf wlf_218) C.call (c_Mo_fault l dC dI cB cI cJ w wi wo wh wd wm wp wb wc wl  win won whn wpl wdn wfo wmn wpn wbn wcn wat wnu (6 : Int32) wat hc239) (cwV 2 hts (gd_V w_468 w_469 w_470 w_365 w_471) rfl rfl rfl ⟨rfl, hd_Mo_fault⟩ ⟨Nat.le_of_ble_eq_true rfl, Nat.le_of_ble_eq_true rfl⟩) rfl hl.1 rfl (Nat.le_of_ble_eq_true rfl) d_Mo_readFrame_239 ⟨Nat.le_of_ble_eq_true rfl, Nat.le_of_ble_eq_true rfl⟩ hZ hK hP hD hS hA 7 0 rfl rfl [0] [1, 2, 3, 4, 5] [5, 0, 1, 2, 3, 4] rfl rfl rfl rfl (by decide) rfl rfl (fun H locs hP hD hS => ?_)
      cases hf
      exact s_iret hx hb hr hlocks hP hK hD hS d_Mo_readFrame_242
  · have hf := br_pos c_185 hf
    refine lv_aload_n hx hb d_Mo_readFrame_188 rfl (lv_at hl 0 rfl) ?_
    refine lv_iconst (v := 1) hx hb d_Mo_readFrame_189 (by decide) ?_
    refine lv_aload_n hx hb d_Mo_readFrame_190 rfl (lv_at hl 0 rfl) ?_
    refine va_get (D := (dC, dI)) (ci := 7) (v := .int win) (C := R_Mo) (T := T_Mo) (N := 21) hx hb hts w_359 hown hK hP 0 rfl rfl 3 (by decide) (hts _ w_370) (fun _ h9 => h9) rfl d_Mo_readFrame_191 ?_
    obtain ⟨r194, wpl_194, hc194, hf⟩ := bd2_some hf
    refine s_Vi (As := [.int (1 : Int32), .int win]) (rest := []) (wr := [(wi, .inl (cI, 8000, .inl wif)), (wh, .inl (cI, 8000, .inl whf)), (wb, .inl (cI, 16000, .inl wbf)), (wc, .inl (cI, 8000, .inl wcf)), (wl, .inl (cJ, 4, .inr (.inl wlf)))]) (ws' := wd_Mo_readFrame w wi wh wb wc wl wo wd wm wp cB cI cJ win won whn wpl_194 wdn wfo wmn wpn wbn wcn wat wnu wif whf wbf wcf wlf) C.call (c_Mo_fault l dC dI cB cI cJ w wi wo wh wd wm wp wb wc wl  win won whn wpl wdn wfo wmn wpn wbn wcn wat wnu (1 : Int32) win hc194) (cwV 2 hts (gd_V w_468 w_469 w_470 w_365 w_471) rfl rfl rfl ⟨rfl, hd_Mo_fault⟩ ⟨Nat.le_of_ble_eq_true rfl, Nat.le_of_ble_eq_true rfl⟩) rfl hl.1 rfl (Nat.le_of_ble_eq_true rfl) d_Mo_readFrame_194 ⟨Nat.le_of_ble_eq_true rfl, Nat.le_of_ble_eq_true rfl⟩ hZ hK hP hD hS hA 7 0 rfl rfl [0] [1, 2, 3, 4, 5] [5, 0, 1, 2, 3, 4] rfl rfl rfl rfl (by decide) rfl rfl (fun H locs hP hD hS => ?_)
    cases hf
    exact s_iret hx hb hr hlocks hP hK hD hS d_Mo_readFrame_197
noncomputable def j_Mo_readFrame_164 (N : Nat) (x1 : Int32) (x2 : Int32) (x3 : Int32) (x4 : Int32) (x5 : Int32) (win : Int32) (whn : Int32) (wpl : Int32) (wbn : Int32) (wcn : Int32) (wat : Int32) (wnu : Int32) (wif : Nat → Int32) (whf : Nat → Int32) (wbf : Nat → Int32) (wcf : Nat → Int32) (wlf : Nat → Int64)  : Option (Int32 × Int32 × Int32 × Int32 × Int32 × Int32 × (Nat → Int32) × (Nat → Int32) × (Nat → Int64)) :=
  (if (x3 &&& (1 : Int32)) = 0 then (j_Mo_readFrame_180 N x1 x2 x3 x4 x5 win whn wpl wbn wcn wat wnu wif whf wbf wcf wlf ) else (j_Mo_readFrame_180 N x1 x2 x3 x4 x5 win whn wpl wbn wcn (wat + (4 : Int32)) wnu wif whf wbf wcf wlf ))
set_option maxHeartbeats 4000000 in
set_option maxRecDepth 100000 in
theorem k_Mo_readFrame_164 {r_z : Int32} {wpl_z : Int32} {wbn_z : Int32} {wcn_z : Int32} {wat_z : Int32} {wnu_z : Int32} {wbf_z : Nat → Int32} {wcf_z : Nat → Int32} {wlf_z : Nat → Int64} (C : Fx p s m args meth c cd_Mo_readFrame 11 R_Mo lw_g (some .int)) (hK : va_K (dC, dI) vwCl [(cB, .byte), (cI, .int), (cJ, .long)] s) (hA : ∀ q, s.heap.size ≤ q → A q) (x1 : Int32) (x2 : Int32) (x3 : Int32) (x4 : Int32) (x5 : Int32) (win : Int32) (won : Int32) (whn : Int32) (wpl : Int32) (wdn : Int32) (wfo : Int32) (wmn : Int32) (wpn : Int32) (wbn : Int32) (wcn : Int32) (wat : Int32) (wnu : Int32) (wif : Nat → Int32) (whf : Nat → Int32) (wbf : Nat → Int32) (wcf : Nat → Int32) (wlf : Nat → Int64)  (hf : j_Mo_readFrame_164 N x1 x2 x3 x4 x5 win whn wpl wbn wcn wat wnu wif whf wbf wcf wlf  = some (r_z, wpl_z, wbn_z, wcn_z, wat_z, wnu_z, wbf_z, wcf_z, wlf_z)) (hP : va_P (dC, dI) vwCl (wd_Mo_readFrame w wi wh wb wc wl wo wd wm wp cB cI cJ win won whn wpl wdn wfo wmn wpn wbn wcn wat wnu wif whf wbf wcf wlf) H) (hD : va_D A (wd_Mo_readFrame w wi wh wb wc wl wo wd wm wp cB cI cJ win won whn wpl wdn wfo wmn wpn wbn wcn wat wnu wif whf wbf wcf wlf)) (hS : va_S A s.heap H locs) (hl : lv_has ls 11 [(0, .ref w), (1, .int x1), (2, .int x2), (3, .int x3), (4, .int x4), (5, .int x5)]) : W p l e rm_Mo_readFrame s m args below meth c H locs 0 0 (MQ below (sQi (dC, dI) vwCl [(cB, .byte), (cI, .int), (cJ, .long)] A r_z (wd_Mo_readFrame w wi wh wb wc wl wo wd wm wp cB cI cJ win won whn wpl_z wdn wfo wmn wpn wbn_z wcn_z wat_z wnu_z wif whf wbf_z wcf_z wlf_z)) args s 0 0 A) (F0 m 164 ls []) := by
  obtain ⟨hx, hb, hml, hown, hts, hr, hlocks, hZ⟩ := id C
  unfold j_Mo_readFrame_164 at hf
  refine lv_iload_n hx hb d_Mo_readFrame_164 rfl (lv_at hl 3 rfl) ?_
  refine lv_iconst (v := 1) hx hb d_Mo_readFrame_165 (by decide) ?_
  refine lv_iand hx hb d_Mo_readFrame_166 ?_
  refine lv_if_eq (tgt := 180) hx hb d_Mo_readFrame_167 (by decide) (fun c_167 => ?_) (fun c_167 => ?_)
  · have hf := br_pos c_167 hf
    exact k_Mo_readFrame_180 C hK hA x1 x2 x3 x4 x5 win won whn wpl wdn wfo wmn wpn wbn wcn wat wnu wif whf wbf wcf wlf  hf hP hD hS (lv_sub hl [0, 1, 2, 3, 4, 5] rfl)
  · have hf := br_neg c_167 hf
    refine lv_aload_n hx hb d_Mo_readFrame_170 rfl (lv_at hl 0 rfl) ?_
    refine lv_dup hx hb d_Mo_readFrame_171 rfl ?_
    refine va_get (D := (dC, dI)) (ci := 7) (v := .int wat) (C := R_Mo) (T := T_Mo) (N := 21) hx hb hts w_359 hown hK hP 0 rfl rfl 19 (by decide) (hts _ w_368) (fun _ h9 => h9) rfl d_Mo_readFrame_172 ?_
    refine lv_iconst (v := 4) hx hb d_Mo_readFrame_175 (by decide) ?_
    refine lv_iadd hx hb d_Mo_readFrame_176 ?_
    refine va_put (D := (dC, dI)) (ci := 7) (v := .int (wat + (4 : Int32))) (ty := .int) (C := R_Mo) (T := T_Mo) (N := 21) hx hb hts w_359 ty_Mo ty_Mo_ok nm_Mo hown hK hP hD hS 0 rfl rfl 19 (by decide) (hts _ w_368) (fun _ h9 => h9) rfl (by decide +kernel) rfl rfl (Nat.le_of_ble_eq_true rfl) d_Mo_readFrame_177 (fun H locs hP hD hS => ?_)
    have hP : va_P (dC, dI) vwCl (wd_Mo_readFrame w wi wh wb wc wl wo wd wm wp cB cI cJ win won whn wpl wdn wfo wmn wpn wbn wcn (wat + (4 : Int32)) wnu wif whf wbf wcf wlf) H := hP
    have hD : va_D A (wd_Mo_readFrame w wi wh wb wc wl wo wd wm wp cB cI cJ win won whn wpl wdn wfo wmn wpn wbn wcn (wat + (4 : Int32)) wnu wif whf wbf wcf wlf) := hD
    exact k_Mo_readFrame_180 C hK hA x1 x2 x3 x4 x5 win won whn wpl wdn wfo wmn wpn wbn wcn (wat + (4 : Int32)) wnu wif whf wbf wcf wlf  hf hP hD hS (lv_sub hl [0, 1, 2, 3, 4, 5] rfl)
noncomputable def j_Mo_readFrame_0 (N : Nat) (x1 : Int32) (win : Int32) (whn : Int32) (wpl : Int32) (wbn : Int32) (wcn : Int32) (wat : Int32) (wnu : Int32) (wif : Nat → Int32) (whf : Nat → Int32) (wbf : Nat → Int32) (wcf : Nat → Int32) (wlf : Nat → Int64)  : Option (Int32 × Int32 × Int32 × Int32 × Int32 × Int32 × (Nat → Int32) × (Nat → Int32) × (Nat → Int64)) :=
  bd1 (f_Mo_has (1 : Int32) win wat) (fun r7 => (if r7 = 0 then bd2 (f_Mo_fault (1 : Int32) win) (fun r19 wpl_19 => (some (r19, wpl_19, wbn, wcn, wat, wnu, wbf, wcf, wlf) : Option (Int32 × Int32 × Int32 × Int32 × Int32 × Int32 × (Nat → Int32) × (Nat → Int32) × (Nat → Int64)))) else as_ (vp_in wat 8000) (bd1 (f_Mo_areFlags (wif wat.toNatClampNeg)) (fun r34 => (if r34 = 0 then bd2 (f_Mo_fault (5 : Int32) wat) (fun r46 wpl_46 => (some (r46, wpl_46, wbn, wcn, wat, wnu, wbf, wcf, wlf) : Option (Int32 × Int32 × Int32 × Int32 × Int32 × Int32 × (Nat → Int32) × (Nat → Int32) × (Nat → Int64)))) else bd1 (f_Mo_has (1 : Int32) win (wat + (1 : Int32))) (fun r62 => (if r62 = 0 then bd2 (f_Mo_fault (1 : Int32) win) (fun r74 wpl_74 => (some (r74, wpl_74, wbn, wcn, (wat + (1 : Int32)), wnu, wbf, wcf, wlf) : Option (Int32 × Int32 × Int32 × Int32 × Int32 × Int32 × (Nat → Int32) × (Nat → Int32) × (Nat → Int64)))) else as_ (vp_in (wat + (1 : Int32)) 8000) ((if ((wif (wat + (1 : Int32)).toNatClampNeg) / (16 : Int32)) < (4 : Int32) then (j_Mo_readFrame_120 wbn wcn (wat + (1 : Int32)) wnu wbf wcf wlf ) else (if (7 : Int32) < ((wif (wat + (1 : Int32)).toNatClampNeg) / (16 : Int32)) then (j_Mo_readFrame_120 wbn wcn (wat + (1 : Int32)) wnu wbf wcf wlf ) else as_ (vp_in (wat + (1 : Int32)) 8000) ((if ((wif (wat + (1 : Int32)).toNatClampNeg) - (wif (wat + (1 : Int32)).toNatClampNeg) / (16 : Int32) * (16 : Int32)) = 0 then (if ((wif wat.toNatClampNeg) &&& (8 : Int32)) = 0 then (j_Mo_readFrame_164 N x1 wat (wif wat.toNatClampNeg) ((wif (wat + (1 : Int32)).toNatClampNeg) / (16 : Int32)) ((wat + (1 : Int32)) + (1 : Int32)) win whn wpl wbn wcn ((wat + (1 : Int32)) + (1 : Int32)) wnu wif whf wbf wcf wlf ) else (j_Mo_readFrame_164 N x1 wat (wif wat.toNatClampNeg) ((wif (wat + (1 : Int32)).toNatClampNeg) / (16 : Int32)) ((wat + (1 : Int32)) + (1 : Int32)) win whn wpl wbn wcn (((wat + (1 : Int32)) + (1 : Int32)) + (8 : Int32)) wnu wif whf wbf wcf wlf )) else (j_Mo_readFrame_120 wbn wcn (wat + (1 : Int32)) wnu wbf wcf wlf )))))))))))))
set_option maxHeartbeats 4000000 in
set_option maxRecDepth 100000 in
theorem k_Mo_readFrame_0 {r_z : Int32} {wpl_z : Int32} {wbn_z : Int32} {wcn_z : Int32} {wat_z : Int32} {wnu_z : Int32} {wbf_z : Nat → Int32} {wcf_z : Nat → Int32} {wlf_z : Nat → Int64} (C : Fx p s m args meth c cd_Mo_readFrame 11 R_Mo lw_g (some .int)) (hK : va_K (dC, dI) vwCl [(cB, .byte), (cI, .int), (cJ, .long)] s) (hA : ∀ q, s.heap.size ≤ q → A q) (x1 : Int32) (win : Int32) (won : Int32) (whn : Int32) (wpl : Int32) (wdn : Int32) (wfo : Int32) (wmn : Int32) (wpn : Int32) (wbn : Int32) (wcn : Int32) (wat : Int32) (wnu : Int32) (wif : Nat → Int32) (whf : Nat → Int32) (wbf : Nat → Int32) (wcf : Nat → Int32) (wlf : Nat → Int64)  (hf : j_Mo_readFrame_0 N x1 win whn wpl wbn wcn wat wnu wif whf wbf wcf wlf  = some (r_z, wpl_z, wbn_z, wcn_z, wat_z, wnu_z, wbf_z, wcf_z, wlf_z)) (hP : va_P (dC, dI) vwCl (wd_Mo_readFrame w wi wh wb wc wl wo wd wm wp cB cI cJ win won whn wpl wdn wfo wmn wpn wbn wcn wat wnu wif whf wbf wcf wlf) H) (hD : va_D A (wd_Mo_readFrame w wi wh wb wc wl wo wd wm wp cB cI cJ win won whn wpl wdn wfo wmn wpn wbn wcn wat wnu wif whf wbf wcf wlf)) (hS : va_S A s.heap H locs) (hl : lv_has ls 11 [(0, .ref w), (1, .int x1)]) : W p l e rm_Mo_readFrame s m args below meth c H locs 0 0 (MQ below (sQi (dC, dI) vwCl [(cB, .byte), (cI, .int), (cJ, .long)] A r_z (wd_Mo_readFrame w wi wh wb wc wl wo wd wm wp cB cI cJ win won whn wpl_z wdn wfo wmn wpn wbn_z wcn_z wat_z wnu_z wif whf wbf_z wcf_z wlf_z)) args s 0 0 A) (F0 m 0 ls []) := by
  obtain ⟨hx, hb, hml, hown, hts, hr, hlocks, hZ⟩ := id C
  unfold j_Mo_readFrame_0 at hf
  refine lv_aload_n hx hb d_Mo_readFrame_0 rfl (lv_at hl 0 rfl) ?_
  refine va_get (D := (dC, dI)) (ci := 7) (v := .int wat) (C := R_Mo) (T := T_Mo) (N := 21) hx hb hts w_359 hown hK hP 0 rfl rfl 19 (by decide) (hts _ w_368) (fun _ h9 => h9) rfl d_Mo_readFrame_1 ?_
  refine lv_istore_n (lv' := [(2, .int wat), (0, .ref w), (1, .int x1)]) hx hb d_Mo_readFrame_4 rfl hl (by decide) rfl (fun ls hl => ?_)
  refine lv_aload_n hx hb d_Mo_readFrame_5 rfl (lv_at hl 1 rfl) ?_
  refine lv_iconst (v := 1) hx hb d_Mo_readFrame_6 (by decide) ?_
  obtain ⟨r7, hc7, hf⟩ := bd1_some hf
  refine s_Vi (As := [.int (1 : Int32)]) (rest := []) (wr := [(wi, .inl (cI, 8000, .inl wif)), (wh, .inl (cI, 8000, .inl whf)), (wb, .inl (cI, 16000, .inl wbf)), (wc, .inl (cI, 8000, .inl wcf)), (wl, .inl (cJ, 4, .inr (.inl wlf)))]) (ws' := wd_Mo_readFrame w wi wh wb wc wl wo wd wm wp cB cI cJ win won whn wpl wdn wfo wmn wpn wbn wcn wat wnu wif whf wbf wcf wlf) C.call (c_Mo_has l dC dI cB cI cJ w wi wo wh wd wm wp wb wc wl  win won whn wpl wdn wfo wmn wpn wbn wcn wat wnu (1 : Int32) hc7) (cwV 1 hts (gd_V w_472 w_473 w_474 w_365 w_475) rfl rfl rfl ⟨rfl, hd_Mo_has⟩ ⟨Nat.le_of_ble_eq_true rfl, Nat.le_of_ble_eq_true rfl⟩) rfl hl.1 rfl (Nat.le_of_ble_eq_true rfl) d_Mo_readFrame_7 ⟨Nat.le_of_ble_eq_true rfl, Nat.le_of_ble_eq_true rfl⟩ hZ hK hP hD hS hA 7 0 rfl rfl [0] [1, 2, 3, 4, 5] [5, 0, 1, 2, 3, 4] rfl rfl rfl rfl (by decide) rfl rfl (fun H locs hP hD hS => ?_)
  refine lv_if_ne (tgt := 23) hx hb d_Mo_readFrame_10 (by decide) (fun c_10 => ?_) (fun c_10 => ?_)
  · have hf := br_neg c_10 hf
    refine lv_aload_n hx hb d_Mo_readFrame_23 rfl (lv_at hl 1 rfl) ?_
    refine va_get (D := (dC, dI)) (ci := 7) (v := .ref wi) (C := R_Mo) (T := T_Mo) (N := 21) hx hb hts w_359 hown hK hP 0 rfl rfl 0 (by decide) (hts _ w_369) (fun _ h9 => h9) rfl d_Mo_readFrame_24 ?_
    refine lv_aload_n hx hb d_Mo_readFrame_27 rfl (lv_at hl 1 rfl) ?_
    refine va_get (D := (dC, dI)) (ci := 7) (v := .int wat) (C := R_Mo) (T := T_Mo) (N := 21) hx hb hts w_359 hown hK hP 0 rfl rfl 19 (by decide) (hts _ w_368) (fun _ h9 => h9) rfl d_Mo_readFrame_28 ?_
    obtain ⟨h_in, hf⟩ := as_some hf
    refine va_iald hx hb hK hP 1 1 rfl rfl h_in d_Mo_readFrame_31 ?_
    refine lv_istore_n (lv' := [(3, .int (wif wat.toNatClampNeg)), (2, .int wat), (0, .ref w), (1, .int x1)]) hx hb d_Mo_readFrame_32 rfl hl (by decide) rfl (fun ls hl => ?_)
    refine lv_iload_n hx hb d_Mo_readFrame_33 rfl (lv_at hl 0 rfl) ?_
    obtain ⟨r34, hc34, hf⟩ := bd1_some hf
    refine s_Si (As := [.int (wif wat.toNatClampNeg)]) (rest := []) (wr := [(w, .inr (7, [.ref wi, .ref wo, .ref wh, .int win, .int won, .int whn, .int wpl, .ref wd, .int wdn, .int wfo, .ref wm, .int wmn, .ref wp, .int wpn, .ref wb, .int wbn, .ref wc, .int wcn, .ref wl, .int wat, .int wnu])), (wi, .inl (cI, 8000, .inl wif)), (wh, .inl (cI, 8000, .inl whf)), (wb, .inl (cI, 16000, .inl wbf)), (wc, .inl (cI, 8000, .inl wcf)), (wl, .inl (cJ, 4, .inr (.inl wlf)))]) (ws' := wd_Mo_readFrame w wi wh wb wc wl wo wd wm wp cB cI cJ win won whn wpl wdn wfo wmn wpn wbn wcn wat wnu wif whf wbf wcf wlf) C.call (c_Mo_areFlags l dC dI cB cI cJ    (wif wat.toNatClampNeg) hc34) (va_cwS 1 hts (gd_S w_441 w_442 w_365 w_443) rfl rfl rfl hd_Mo_areFlags ⟨Nat.le_of_ble_eq_true rfl, Nat.le_of_ble_eq_true rfl⟩) rfl hl.1 rfl (Nat.le_of_ble_eq_true rfl) d_Mo_readFrame_34 ⟨Nat.le_of_ble_eq_true rfl, Nat.le_of_ble_eq_true rfl⟩ hZ hK hP hD hS hA [] [0, 1, 2, 3, 4, 5] [0, 1, 2, 3, 4, 5] rfl rfl rfl rfl (by decide) rfl rfl (fun H locs hP hD hS => ?_)
    refine lv_if_ne (tgt := 50) hx hb d_Mo_readFrame_37 (by decide) (fun c_37 => ?_) (fun c_37 => ?_)
    · have hf := br_neg c_37 hf
      refine lv_aload_n hx hb d_Mo_readFrame_50 rfl (lv_at hl 2 rfl) ?_
      refine lv_dup hx hb d_Mo_readFrame_51 rfl ?_
      refine va_get (D := (dC, dI)) (ci := 7) (v := .int wat) (C := R_Mo) (T := T_Mo) (N := 21) hx hb hts w_359 hown hK hP 0 rfl rfl 19 (by decide) (hts _ w_368) (fun _ h9 => h9) rfl d_Mo_readFrame_52 ?_
      refine lv_iconst (v := 1) hx hb d_Mo_readFrame_55 (by decide) ?_
      refine lv_iadd hx hb d_Mo_readFrame_56 ?_
      refine va_put (D := (dC, dI)) (ci := 7) (v := .int (wat + (1 : Int32))) (ty := .int) (C := R_Mo) (T := T_Mo) (N := 21) hx hb hts w_359 ty_Mo ty_Mo_ok nm_Mo hown hK hP hD hS 0 rfl rfl 19 (by decide) (hts _ w_368) (fun _ h9 => h9) rfl (by decide +kernel) rfl rfl (Nat.le_of_ble_eq_true rfl) d_Mo_readFrame_57 (fun H locs hP hD hS => ?_)
      have hP : va_P (dC, dI) vwCl (wd_Mo_readFrame w wi wh wb wc wl wo wd wm wp cB cI cJ win won whn wpl wdn wfo wmn wpn wbn wcn (wat + (1 : Int32)) wnu wif whf wbf wcf wlf) H := hP
      have hD : va_D A (wd_Mo_readFrame w wi wh wb wc wl wo wd wm wp cB cI cJ win won whn wpl wdn wfo wmn wpn wbn wcn (wat + (1 : Int32)) wnu wif whf wbf wcf wlf) := hD
      refine lv_aload_n hx hb d_Mo_readFrame_60 rfl (lv_at hl 2 rfl) ?_
      refine lv_iconst (v := 1) hx hb d_Mo_readFrame_61 (by decide) ?_
      obtain ⟨r62, hc62, hf⟩ := bd1_some hf
      refine s_Vi (As := [.int (1 : Int32)]) (rest := []) (wr := [(wi, .inl (cI, 8000, .inl wif)), (wh, .inl (cI, 8000, .inl whf)), (wb, .inl (cI, 16000, .inl wbf)), (wc, .inl (cI, 8000, .inl wcf)), (wl, .inl (cJ, 4, .inr (.inl wlf)))]) (ws' := wd_Mo_readFrame w wi wh wb wc wl wo wd wm wp cB cI cJ win won whn wpl wdn wfo wmn wpn wbn wcn (wat + (1 : Int32)) wnu wif whf wbf wcf wlf) C.call (c_Mo_has l dC dI cB cI cJ w wi wo wh wd wm wp wb wc wl  win won whn wpl wdn wfo wmn wpn wbn wcn (wat + (1 : Int32)) wnu (1 : Int32) hc62) (cwV 1 hts (gd_V w_472 w_473 w_474 w_365 w_475) rfl rfl rfl ⟨rfl, hd_Mo_has⟩ ⟨Nat.le_of_ble_eq_true rfl, Nat.le_of_ble_eq_true rfl⟩) rfl hl.1 rfl (Nat.le_of_ble_eq_true rfl) d_Mo_readFrame_62 ⟨Nat.le_of_ble_eq_true rfl, Nat.le_of_ble_eq_true rfl⟩ hZ hK hP hD hS hA 7 0 rfl rfl [0] [1, 2, 3, 4, 5] [5, 0, 1, 2, 3, 4] rfl rfl rfl rfl (by decide) rfl rfl (fun H locs hP hD hS => ?_)
      refine lv_if_ne (tgt := 78) hx hb d_Mo_readFrame_65 (by decide) (fun c_65 => ?_) (fun c_65 => ?_)
      · have hf := br_neg c_65 hf
        refine lv_aload_n hx hb d_Mo_readFrame_78 rfl (lv_at hl 2 rfl) ?_
        refine va_get (D := (dC, dI)) (ci := 7) (v := .ref wi) (C := R_Mo) (T := T_Mo) (N := 21) hx hb hts w_359 hown hK hP 0 rfl rfl 0 (by decide) (hts _ w_369) (fun _ h9 => h9) rfl d_Mo_readFrame_79 ?_
        refine lv_aload_n hx hb d_Mo_readFrame_82 rfl (lv_at hl 2 rfl) ?_
        refine va_get (D := (dC, dI)) (ci := 7) (v := .int (wat + (1 : Int32))) (C := R_Mo) (T := T_Mo) (N := 21) hx hb hts w_359 hown hK hP 0 rfl rfl 19 (by decide) (hts _ w_368) (fun _ h9 => h9) rfl d_Mo_readFrame_83 ?_
        obtain ⟨h_in, hf⟩ := as_some hf
        refine va_iald hx hb hK hP 1 1 rfl rfl h_in d_Mo_readFrame_86 ?_
        refine lv_bipush (v := 16) hx hb d_Mo_readFrame_87 (by decide) ?_
        refine lv_idiv hx hb d_Mo_readFrame_89 (by decide) ?_
        refine lv_istore (lv' := [(4, .int ((wif (wat + (1 : Int32)).toNatClampNeg) / (16 : Int32))), (3, .int (wif wat.toNatClampNeg)), (2, .int wat), (0, .ref w), (1, .int x1)]) hx hb d_Mo_readFrame_90 hl (by decide) rfl (fun ls hl => ?_)
        refine lv_iload hx hb d_Mo_readFrame_92 (lv_at hl 0 rfl) ?_
        refine lv_iconst (v := 4) hx hb d_Mo_readFrame_94 (by decide) ?_
        refine lv_icmp_lt (tgt := 120) hx hb d_Mo_readFrame_95 (by decide) (fun c_95 => ?_) (fun c_95 => ?_)
        · have hf := br_pos c_95 hf
          exact k_Mo_readFrame_120 C hK hA win won whn wpl wdn wfo wmn wpn wbn wcn (wat + (1 : Int32)) wnu wif whf wbf wcf wlf  hf hP hD hS (lv_sub hl [3] rfl)
        · have hf := br_neg c_95 hf
          refine lv_iload hx hb d_Mo_readFrame_98 (lv_at hl 0 rfl) ?_
          refine lv_bipush (v := 7) hx hb d_Mo_readFrame_100 (by decide) ?_
          refine lv_icmp_gt (tgt := 120) hx hb d_Mo_readFrame_102 (by decide) (fun c_102 => ?_) (fun c_102 => ?_)
          · have hf := br_pos c_102 hf
            exact k_Mo_readFrame_120 C hK hA win won whn wpl wdn wfo wmn wpn wbn wcn (wat + (1 : Int32)) wnu wif whf wbf wcf wlf  hf hP hD hS (lv_sub hl [3] rfl)
          · have hf := br_neg c_102 hf
            refine lv_aload_n hx hb d_Mo_readFrame_105 rfl (lv_at hl 3 rfl) ?_
            refine va_get (D := (dC, dI)) (ci := 7) (v := .ref wi) (C := R_Mo) (T := T_Mo) (N := 21) hx hb hts w_359 hown hK hP 0 rfl rfl 0 (by decide) (hts _ w_369) (fun _ h9 => h9) rfl d_Mo_readFrame_106 ?_
            refine lv_aload_n hx hb d_Mo_readFrame_109 rfl (lv_at hl 3 rfl) ?_
            refine va_get (D := (dC, dI)) (ci := 7) (v := .int (wat + (1 : Int32))) (C := R_Mo) (T := T_Mo) (N := 21) hx hb hts w_359 hown hK hP 0 rfl rfl 19 (by decide) (hts _ w_368) (fun _ h9 => h9) rfl d_Mo_readFrame_110 ?_
            obtain ⟨h_in, hf⟩ := as_some hf
            refine va_iald hx hb hK hP 1 1 rfl rfl h_in d_Mo_readFrame_113 ?_
            refine lv_bipush (v := 16) hx hb d_Mo_readFrame_114 (by decide) ?_
            refine lv_irem hx hb d_Mo_readFrame_116 (by decide) ?_
            refine lv_if_eq (tgt := 130) hx hb d_Mo_readFrame_117 (by decide) (fun c_117 => ?_) (fun c_117 => ?_)
            · have hf := br_pos c_117 hf
              refine lv_aload_n hx hb d_Mo_readFrame_130 rfl (lv_at hl 3 rfl) ?_
              refine lv_dup hx hb d_Mo_readFrame_131 rfl ?_
              refine va_get (D := (dC, dI)) (ci := 7) (v := .int (wat + (1 : Int32))) (C := R_Mo) (T := T_Mo) (N := 21) hx hb hts w_359 hown hK hP 0 rfl rfl 19 (by decide) (hts _ w_368) (fun _ h9 => h9) rfl d_Mo_readFrame_132 ?_
              refine lv_iconst (v := 1) hx hb d_Mo_readFrame_135 (by decide) ?_
              refine lv_iadd hx hb d_Mo_readFrame_136 ?_
              refine va_put (D := (dC, dI)) (ci := 7) (v := .int ((wat + (1 : Int32)) + (1 : Int32))) (ty := .int) (C := R_Mo) (T := T_Mo) (N := 21) hx hb hts w_359 ty_Mo ty_Mo_ok nm_Mo hown hK hP hD hS 0 rfl rfl 19 (by decide) (hts _ w_368) (fun _ h9 => h9) rfl (by decide +kernel) rfl rfl (Nat.le_of_ble_eq_true rfl) d_Mo_readFrame_137 (fun H locs hP hD hS => ?_)
              have hP : va_P (dC, dI) vwCl (wd_Mo_readFrame w wi wh wb wc wl wo wd wm wp cB cI cJ win won whn wpl wdn wfo wmn wpn wbn wcn ((wat + (1 : Int32)) + (1 : Int32)) wnu wif whf wbf wcf wlf) H := hP
              have hD : va_D A (wd_Mo_readFrame w wi wh wb wc wl wo wd wm wp cB cI cJ win won whn wpl wdn wfo wmn wpn wbn wcn ((wat + (1 : Int32)) + (1 : Int32)) wnu wif whf wbf wcf wlf) := hD
              refine lv_aload_n hx hb d_Mo_readFrame_140 rfl (lv_at hl 3 rfl) ?_
              refine va_get (D := (dC, dI)) (ci := 7) (v := .int ((wat + (1 : Int32)) + (1 : Int32))) (C := R_Mo) (T := T_Mo) (N := 21) hx hb hts w_359 hown hK hP 0 rfl rfl 19 (by decide) (hts _ w_368) (fun _ h9 => h9) rfl d_Mo_readFrame_141 ?_
              refine lv_istore (lv' := [(5, .int ((wat + (1 : Int32)) + (1 : Int32))), (4, .int ((wif (wat + (1 : Int32)).toNatClampNeg) / (16 : Int32))), (3, .int (wif wat.toNatClampNeg)), (2, .int wat), (0, .ref w), (1, .int x1)]) hx hb d_Mo_readFrame_144 hl (by decide) rfl (fun ls hl => ?_)
              refine lv_iload_n hx hb d_Mo_readFrame_146 rfl (lv_at hl 2 rfl) ?_
              refine lv_bipush (v := 8) hx hb d_Mo_readFrame_147 (by decide) ?_
              refine lv_iand hx hb d_Mo_readFrame_149 ?_
              refine lv_if_eq (tgt := 164) hx hb d_Mo_readFrame_150 (by decide) (fun c_150 => ?_) (fun c_150 => ?_)
              · have hf := br_pos c_150 hf
                exact k_Mo_readFrame_164 C hK hA x1 wat (wif wat.toNatClampNeg) ((wif (wat + (1 : Int32)).toNatClampNeg) / (16 : Int32)) ((wat + (1 : Int32)) + (1 : Int32)) win won whn wpl wdn wfo wmn wpn wbn wcn ((wat + (1 : Int32)) + (1 : Int32)) wnu wif whf wbf wcf wlf  hf hP hD hS (lv_sub hl [4, 5, 3, 2, 1, 0] rfl)
              · have hf := br_neg c_150 hf
                refine lv_aload_n hx hb d_Mo_readFrame_153 rfl (lv_at hl 4 rfl) ?_
                refine lv_dup hx hb d_Mo_readFrame_154 rfl ?_
                refine va_get (D := (dC, dI)) (ci := 7) (v := .int ((wat + (1 : Int32)) + (1 : Int32))) (C := R_Mo) (T := T_Mo) (N := 21) hx hb hts w_359 hown hK hP 0 rfl rfl 19 (by decide) (hts _ w_368) (fun _ h9 => h9) rfl d_Mo_readFrame_155 ?_
                refine lv_bipush (v := 8) hx hb d_Mo_readFrame_158 (by decide) ?_
                refine lv_iadd hx hb d_Mo_readFrame_160 ?_
                refine va_put (D := (dC, dI)) (ci := 7) (v := .int (((wat + (1 : Int32)) + (1 : Int32)) + (8 : Int32))) (ty := .int) (C := R_Mo) (T := T_Mo) (N := 21) hx hb hts w_359 ty_Mo ty_Mo_ok nm_Mo hown hK hP hD hS 0 rfl rfl 19 (by decide) (hts _ w_368) (fun _ h9 => h9) rfl (by decide +kernel) rfl rfl (Nat.le_of_ble_eq_true rfl) d_Mo_readFrame_161 (fun H locs hP hD hS => ?_)
                have hP : va_P (dC, dI) vwCl (wd_Mo_readFrame w wi wh wb wc wl wo wd wm wp cB cI cJ win won whn wpl wdn wfo wmn wpn wbn wcn (((wat + (1 : Int32)) + (1 : Int32)) + (8 : Int32)) wnu wif whf wbf wcf wlf) H := hP
                have hD : va_D A (wd_Mo_readFrame w wi wh wb wc wl wo wd wm wp cB cI cJ win won whn wpl wdn wfo wmn wpn wbn wcn (((wat + (1 : Int32)) + (1 : Int32)) + (8 : Int32)) wnu wif whf wbf wcf wlf) := hD
                exact k_Mo_readFrame_164 C hK hA x1 wat (wif wat.toNatClampNeg) ((wif (wat + (1 : Int32)).toNatClampNeg) / (16 : Int32)) ((wat + (1 : Int32)) + (1 : Int32)) win won whn wpl wdn wfo wmn wpn wbn wcn (((wat + (1 : Int32)) + (1 : Int32)) + (8 : Int32)) wnu wif whf wbf wcf wlf  hf hP hD hS (lv_sub hl [4, 5, 3, 2, 1, 0] rfl)
            · have hf := br_neg c_117 hf
              exact k_Mo_readFrame_120 C hK hA win won whn wpl wdn wfo wmn wpn wbn wcn (wat + (1 : Int32)) wnu wif whf wbf wcf wlf  hf hP hD hS (lv_sub hl [3] rfl)
      · have hf := br_pos c_65 hf
        refine lv_aload_n hx hb d_Mo_readFrame_68 rfl (lv_at hl 2 rfl) ?_
        refine lv_iconst (v := 1) hx hb d_Mo_readFrame_69 (by decide) ?_
        refine lv_aload_n hx hb d_Mo_readFrame_70 rfl (lv_at hl 2 rfl) ?_
        refine va_get (D := (dC, dI)) (ci := 7) (v := .int win) (C := R_Mo) (T := T_Mo) (N := 21) hx hb hts w_359 hown hK hP 0 rfl rfl 3 (by decide) (hts _ w_370) (fun _ h9 => h9) rfl d_Mo_readFrame_71 ?_
        obtain ⟨r74, wpl_74, hc74, hf⟩ := bd2_some hf
        refine s_Vi (As := [.int (1 : Int32), .int win]) (rest := []) (wr := [(wi, .inl (cI, 8000, .inl wif)), (wh, .inl (cI, 8000, .inl whf)), (wb, .inl (cI, 16000, .inl wbf)), (wc, .inl (cI, 8000, .inl wcf)), (wl, .inl (cJ, 4, .inr (.inl wlf)))]) (ws' := wd_Mo_readFrame w wi wh wb wc wl wo wd wm wp cB cI cJ win won whn wpl_74 wdn wfo wmn wpn wbn wcn (wat + (1 : Int32)) wnu wif whf wbf wcf wlf) C.call (c_Mo_fault l dC dI cB cI cJ w wi wo wh wd wm wp wb wc wl  win won whn wpl wdn wfo wmn wpn wbn wcn (wat + (1 : Int32)) wnu (1 : Int32) win hc74) (cwV 2 hts (gd_V w_468 w_469 w_470 w_365 w_471) rfl rfl rfl ⟨rfl, hd_Mo_fault⟩ ⟨Nat.le_of_ble_eq_true rfl, Nat.le_of_ble_eq_true rfl⟩) rfl hl.1 rfl (Nat.le_of_ble_eq_true rfl) d_Mo_readFrame_74 ⟨Nat.le_of_ble_eq_true rfl, Nat.le_of_ble_eq_true rfl⟩ hZ hK hP hD hS hA 7 0 rfl rfl [0] [1, 2, 3, 4, 5] [5, 0, 1, 2, 3, 4] rfl rfl rfl rfl (by decide) rfl rfl (fun H locs hP hD hS => ?_)
        cases hf
        exact s_iret hx hb hr hlocks hP hK hD hS d_Mo_readFrame_77
    · have hf := br_pos c_37 hf
      refine lv_aload_n hx hb d_Mo_readFrame_40 rfl (lv_at hl 2 rfl) ?_
      refine lv_iconst (v := 5) hx hb d_Mo_readFrame_41 (by decide) ?_
      refine lv_aload_n hx hb d_Mo_readFrame_42 rfl (lv_at hl 2 rfl) ?_
      refine va_get (D := (dC, dI)) (ci := 7) (v := .int wat) (C := R_Mo) (T := T_Mo) (N := 21) hx hb hts w_359 hown hK hP 0 rfl rfl 19 (by decide) (hts _ w_368) (fun _ h9 => h9) rfl d_Mo_readFrame_43 ?_
      obtain ⟨r46, wpl_46, hc46, hf⟩ := bd2_some hf
      refine s_Vi (As := [.int (5 : Int32), .int wat]) (rest := []) (wr := [(wi, .inl (cI, 8000, .inl wif)), (wh, .inl (cI, 8000, .inl whf)), (wb, .inl (cI, 16000, .inl wbf)), (wc, .inl (cI, 8000, .inl wcf)), (wl, .inl (cJ, 4, .inr (.inl wlf)))]) (ws' := wd_Mo_readFrame w wi wh wb wc wl wo wd wm wp cB cI cJ win won whn wpl_46 wdn wfo wmn wpn wbn wcn wat wnu wif whf wbf wcf wlf) C.call (c_Mo_fault l dC dI cB cI cJ w wi wo wh wd wm wp wb wc wl  win won whn wpl wdn wfo wmn wpn wbn wcn wat wnu (5 : Int32) wat hc46) (cwV 2 hts (gd_V w_468 w_469 w_470 w_365 w_471) rfl rfl rfl ⟨rfl, hd_Mo_fault⟩ ⟨Nat.le_of_ble_eq_true rfl, Nat.le_of_ble_eq_true rfl⟩) rfl hl.1 rfl (Nat.le_of_ble_eq_true rfl) d_Mo_readFrame_46 ⟨Nat.le_of_ble_eq_true rfl, Nat.le_of_ble_eq_true rfl⟩ hZ hK hP hD hS hA 7 0 rfl rfl [0] [1, 2, 3, 4, 5] [5, 0, 1, 2, 3, 4] rfl rfl rfl rfl (by decide) rfl rfl (fun H locs hP hD hS => ?_)
      cases hf
      exact s_iret hx hb hr hlocks hP hK hD hS d_Mo_readFrame_49
  · have hf := br_pos c_10 hf
    refine lv_aload_n hx hb d_Mo_readFrame_13 rfl (lv_at hl 1 rfl) ?_
    refine lv_iconst (v := 1) hx hb d_Mo_readFrame_14 (by decide) ?_
    refine lv_aload_n hx hb d_Mo_readFrame_15 rfl (lv_at hl 1 rfl) ?_
    refine va_get (D := (dC, dI)) (ci := 7) (v := .int win) (C := R_Mo) (T := T_Mo) (N := 21) hx hb hts w_359 hown hK hP 0 rfl rfl 3 (by decide) (hts _ w_370) (fun _ h9 => h9) rfl d_Mo_readFrame_16 ?_
    obtain ⟨r19, wpl_19, hc19, hf⟩ := bd2_some hf
    refine s_Vi (As := [.int (1 : Int32), .int win]) (rest := []) (wr := [(wi, .inl (cI, 8000, .inl wif)), (wh, .inl (cI, 8000, .inl whf)), (wb, .inl (cI, 16000, .inl wbf)), (wc, .inl (cI, 8000, .inl wcf)), (wl, .inl (cJ, 4, .inr (.inl wlf)))]) (ws' := wd_Mo_readFrame w wi wh wb wc wl wo wd wm wp cB cI cJ win won whn wpl_19 wdn wfo wmn wpn wbn wcn wat wnu wif whf wbf wcf wlf) C.call (c_Mo_fault l dC dI cB cI cJ w wi wo wh wd wm wp wb wc wl  win won whn wpl wdn wfo wmn wpn wbn wcn wat wnu (1 : Int32) win hc19) (cwV 2 hts (gd_V w_468 w_469 w_470 w_365 w_471) rfl rfl rfl ⟨rfl, hd_Mo_fault⟩ ⟨Nat.le_of_ble_eq_true rfl, Nat.le_of_ble_eq_true rfl⟩) rfl hl.1 rfl (Nat.le_of_ble_eq_true rfl) d_Mo_readFrame_19 ⟨Nat.le_of_ble_eq_true rfl, Nat.le_of_ble_eq_true rfl⟩ hZ hK hP hD hS hA 7 0 rfl rfl [0] [1, 2, 3, 4, 5] [5, 0, 1, 2, 3, 4] rfl rfl rfl rfl (by decide) rfl rfl (fun H locs hP hD hS => ?_)
    cases hf
    exact s_iret hx hb hr hlocks hP hK hD hS d_Mo_readFrame_22
end
noncomputable abbrev f_Mo_readFrame (N : Nat) (x1 : Int32) (win : Int32) (whn : Int32) (wpl : Int32) (wbn : Int32) (wcn : Int32) (wat : Int32) (wnu : Int32) (wif : Nat → Int32) (whf : Nat → Int32) (wbf : Nat → Int32) (wcf : Nat → Int32) (wlf : Nat → Int64) : Option (Int32 × Int32 × Int32 × Int32 × Int32 × Int32 × (Nat → Int32) × (Nat → Int32) × (Nat → Int64)) := j_Mo_readFrame_0 N x1 win whn wpl wbn wcn wat wnu wif whf wbf wcf wlf
set_option maxRecDepth 100000 in
theorem c_Mo_readFrame {N : Nat} (l : Launch) (dC : Nat → ClassId) (dI : Nat → Nat → Nat) (cB cI cJ : ClassId) (w wi wh wb wc wl wo wd wm wp : Nat) (win : Int32) (won : Int32) (whn : Int32) (wpl : Int32) (wdn : Int32) (wfo : Int32) (wmn : Int32) (wpn : Int32) (wbn : Int32) (wcn : Int32) (wat : Int32) (wnu : Int32) (wif : Nat → Int32) (whf : Nat → Int32) (wbf : Nat → Int32) (wcf : Nat → Int32) (wlf : Nat → Int64) (x1 : Int32) {r_z : Int32} {wpl_z : Int32} {wbn_z : Int32} {wcn_z : Int32} {wat_z : Int32} {wnu_z : Int32} {wbf_z : Nat → Int32} {wcf_z : Nat → Int32} {wlf_z : Nat → Int64} (hf : f_Mo_readFrame N x1 win whn wpl wbn wcn wat wnu wif whf wbf wcf wlf = some (r_z, wpl_z, wbn_z, wcn_z, wat_z, wnu_z, wbf_z, wcf_z, wlf_z)) : MetI l y_Mo_readFrame ws_Mo_readFrame rm_Mo_readFrame (dC, dI) vwCl [(cB, .byte), (cI, .int), (cJ, .long)] [.ref w, .int x1] (wd_Mo_readFrame w wi wh wb wc wl wo wd wm wp cB cI cJ win won whn wpl wdn wfo wmn wpn wbn wcn wat wnu wif whf wbf wcf wlf) r_z (wd_Mo_readFrame w wi wh wb wc wl wo wd wm wp cB cI cJ win won whn wpl_z wdn wfo wmn wpn wbn_z wcn_z wat_z wnu_z wif whf wbf_z wcf_z wlf_z) 0 0 :=
  s_ofi (bytes := cd_Mo_readFrame) (maxL := 11) (ret := (some .int)) (by decide) rfl (Nat.le_of_ble_eq_true rfl) (fun p e s m below meth c A ls C hK hA hP hD hS hl => k_Mo_readFrame_0 C hK hA x1 win won whn wpl wdn wfo wmn wpn wbn wcn wat wnu wif whf wbf wcf wlf hf hP hD hS (lv_sub hl [0, 1] rfl))
