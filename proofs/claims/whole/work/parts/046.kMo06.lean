abbrev wd_Mo_readPart (w wi wh wb wc wl wo wd wm wp : Nat) (cB cI cJ : ClassId) (win : Int32) (won : Int32) (whn : Int32) (wpl : Int32) (wdn : Int32) (wfo : Int32) (wmn : Int32) (wpn : Int32) (wbn : Int32) (wcn : Int32) (wat : Int32) (wnu : Int32) (wif : Nat → Int32) (whf : Nat → Int32) (wbf : Nat → Int32) (wcf : Nat → Int32) (wlf : Nat → Int64) : va_W := [(w, .inr (7, [.ref wi, .ref wo, .ref wh, .int win, .int won, .int whn, .int wpl, .ref wd, .int wdn, .int wfo, .ref wm, .int wmn, .ref wp, .int wpn, .ref wb, .int wbn, .ref wc, .int wcn, .ref wl, .int wat, .int wnu])), (wi, .inl (cI, 8000, .inl wif)), (wh, .inl (cI, 8000, .inl whf)), (wb, .inl (cI, 16000, .inl wbf)), (wc, .inl (cI, 8000, .inl wcf)), (wl, .inl (cJ, 4, .inr (.inl wlf)))]
abbrev rm_Mo_readPart : Room := { frames := 2, cells := 0, slots := 0, locals := 61 }
section
variable {p : Program} {l : Launch} {e : Env} {s : State} {m : MethodId} {args : Array Value} {below : List Frame} {meth : Method} {c : Code} {dC : Nat → ClassId} {dI : Nat → Nat → Nat} {A : Nat → Prop} {cB cI cJ : ClassId} {H : Heap} {locs : List Loc} {ls : Array Slot} {N : Nat} {w wi wh wb wc wl wo wd wm wp : Nat}
noncomputable def b_Mo_readPart_360 (x12 : Int32) (wpl : Int32) (wbn : Int32) (wnu : Int32) (wbf : Nat → Int32) (wlf : Nat → Int64)  (kh360 : Int32 → Int32 → (Nat → Int32) → Option (Int32 × Int32 × Int32 × Int32 × Int32 × Int32 × (Nat → Int32) × (Nat → Int32) × (Nat → Int64))) (x16 : Int32) (wcn : Int32) (wcf : Nat → Int32) : Option (Int32 × Int32 × Int32 × Int32 × Int32 × Int32 × (Nat → Int32) × (Nat → Int32) × (Nat → Int64)) :=
  (if wbn ≤ x16 then (some ((0 : Int32), wpl, wbn, wcn, x12, wnu, wbf, wcf, wlf) : Option (Int32 × Int32 × Int32 × Int32 × Int32 × Int32 × (Nat → Int32) × (Nat → Int32) × (Nat → Int64))) else as_ (vp_in x16 16000) (as_ (vp_in wcn 8000) ((kh360 (x16 + 1) (wcn + (1 : Int32)) (upd wcf wcn.toNatClampNeg (wbf x16.toNatClampNeg))))))
set_option maxHeartbeats 4000000 in
set_option maxRecDepth 100000 in
theorem k_Mo_readPart_360 {r_z : Int32} {wpl_z : Int32} {wbn_z : Int32} {wcn_z : Int32} {wat_z : Int32} {wnu_z : Int32} {wbf_z : Nat → Int32} {wcf_z : Nat → Int32} {wlf_z : Nat → Int64} (C : Fx p s m args meth c cd_Mo_readPart 17 R_Mo lw_g (some .int)) (hK : va_K (dC, dI) vwCl [(cB, .byte), (cI, .int), (cJ, .long)] s) (hA : ∀ q, s.heap.size ≤ q → A q) (x12 : Int32) (win : Int32) (won : Int32) (whn : Int32) (wpl : Int32) (wdn : Int32) (wfo : Int32) (wmn : Int32) (wpn : Int32) (wbn : Int32) (wat : Int32) (wnu : Int32) (wif : Nat → Int32) (whf : Nat → Int32) (wbf : Nat → Int32) (wlf : Nat → Int64)  : ∀ (n : Nat) (x16 : Int32) (wcn : Int32) (wcf : Nat → Int32), loop3 (b_Mo_readPart_360 x12 wpl wbn wnu wbf wlf ) n x16 wcn wcf = some (r_z, wpl_z, wbn_z, wcn_z, wat_z, wnu_z, wbf_z, wcf_z, wlf_z) → ∀ (H : Heap) (locs : List Loc), va_P (dC, dI) vwCl (wd_Mo_readPart w wi wh wb wc wl wo wd wm wp cB cI cJ win won whn wpl wdn wfo wmn wpn wbn wcn wat wnu wif whf wbf wcf wlf) H → va_D A (wd_Mo_readPart w wi wh wb wc wl wo wd wm wp cB cI cJ win won whn wpl wdn wfo wmn wpn wbn wcn wat wnu wif whf wbf wcf wlf) → va_S A s.heap H locs → ∀ (ls : Array Slot), lv_has ls 17 [(0, .ref w), (12, .int x12), (16, .int x16)] → W p l e rm_Mo_readPart s m args below meth c H locs 0 0 (MQ below (sQi (dC, dI) vwCl [(cB, .byte), (cI, .int), (cJ, .long)] A r_z (wd_Mo_readPart w wi wh wb wc wl wo wd wm wp cB cI cJ win won whn wpl_z wdn wfo wmn wpn wbn_z wcn_z wat_z wnu_z wif whf wbf_z wcf_z wlf_z)) args s 0 0 A) (F0 m 360 ls []) := by
  obtain ⟨hx, hb, hml, hown, hts, hr, hlocks, hZ⟩ := id C
  intro n
  induction n with
  | zero => intro x16 wcn wcf hf; cases hf
  | succ n ih360 =>
    intro x16 wcn wcf hf H locs hP hD hS ls hl
    have hf : b_Mo_readPart_360 x12 wpl wbn wnu wbf wlf  (loop3 (b_Mo_readPart_360 x12 wpl wbn wnu wbf wlf ) n) x16 wcn wcf = some (r_z, wpl_z, wbn_z, wcn_z, wat_z, wnu_z, wbf_z, wcf_z, wlf_z) := hf
    generalize loop3 (b_Mo_readPart_360 x12 wpl wbn wnu wbf wlf ) n = kh360 at hf ih360
    unfold b_Mo_readPart_360 at hf
    refine lv_iload hx hb d_Mo_readPart_360 (lv_at hl 2 rfl) ?_
    refine lv_aload_n hx hb d_Mo_readPart_362 rfl (lv_at hl 0 rfl) ?_
    refine va_get (D := (dC, dI)) (ci := 7) (v := .int wbn) (C := R_Mo) (T := T_Mo) (N := 21) hx hb hts w_359 hown hK hP 0 rfl rfl 15 (by decide) (hts _ w_375) (fun _ h9 => h9) rfl d_Mo_readPart_363 ?_
    refine lv_icmp_ge (tgt := 401) hx hb d_Mo_readPart_366 (by decide) (fun c_366 => ?_) (fun c_366 => ?_)
    · have hf := br_pos c_366 hf
      refine lv_aload_n hx hb d_Mo_readPart_401 rfl (lv_at hl 0 rfl) ?_
      refine lv_iload hx hb d_Mo_readPart_402 (lv_at hl 1 rfl) ?_
      refine va_put (D := (dC, dI)) (ci := 7) (v := .int x12) (ty := .int) (C := R_Mo) (T := T_Mo) (N := 21) hx hb hts w_359 ty_Mo ty_Mo_ok nm_Mo hown hK hP hD hS 0 rfl rfl 19 (by decide) (hts _ w_368) (fun _ h9 => h9) rfl (by decide +kernel) rfl rfl (Nat.le_of_ble_eq_true rfl) d_Mo_readPart_404 (fun H locs hP hD hS => ?_)
      have hP : va_P (dC, dI) vwCl (wd_Mo_readPart w wi wh wb wc wl wo wd wm wp cB cI cJ win won whn wpl wdn wfo wmn wpn wbn wcn x12 wnu wif whf wbf wcf wlf) H := hP
      have hD : va_D A (wd_Mo_readPart w wi wh wb wc wl wo wd wm wp cB cI cJ win won whn wpl wdn wfo wmn wpn wbn wcn x12 wnu wif whf wbf wcf wlf) := hD
      refine lv_iconst (v := 0) hx hb d_Mo_readPart_407 (by decide) ?_
      cases hf
      exact s_iret hx hb hr hlocks hP hK hD hS d_Mo_readPart_408
    · have hf := br_neg c_366 hf
      refine lv_aload_n hx hb d_Mo_readPart_369 rfl (lv_at hl 0 rfl) ?_
      refine va_get (D := (dC, dI)) (ci := 7) (v := .ref wc) (C := R_Mo) (T := T_Mo) (N := 21) hx hb hts w_359 hown hK hP 0 rfl rfl 16 (by decide) (hts _ w_467) (fun _ h9 => h9) rfl d_Mo_readPart_370 ?_
      refine lv_aload_n hx hb d_Mo_readPart_373 rfl (lv_at hl 0 rfl) ?_
      refine va_get (D := (dC, dI)) (ci := 7) (v := .int wcn) (C := R_Mo) (T := T_Mo) (N := 21) hx hb hts w_359 hown hK hP 0 rfl rfl 17 (by decide) (hts _ w_458) (fun _ h9 => h9) rfl d_Mo_readPart_374 ?_
      refine lv_aload_n hx hb d_Mo_readPart_377 rfl (lv_at hl 0 rfl) ?_
      refine va_get (D := (dC, dI)) (ci := 7) (v := .ref wb) (C := R_Mo) (T := T_Mo) (N := 21) hx hb hts w_359 hown hK hP 0 rfl rfl 14 (by decide) (hts _ w_376) (fun _ h9 => h9) rfl d_Mo_readPart_378 ?_
      refine lv_iload hx hb d_Mo_readPart_381 (lv_at hl 2 rfl) ?_
      obtain ⟨h_in, hf⟩ := as_some hf
      refine va_iald hx hb hK hP 3 1 rfl rfl h_in d_Mo_readPart_383 ?_
      obtain ⟨h_in, hf⟩ := as_some hf
      refine va_iast hx hb hK hP hD hS 4 1 rfl rfl h_in d_Mo_readPart_384 (fun H locs hP hD hS => ?_)
      have hP : va_P (dC, dI) vwCl (wd_Mo_readPart w wi wh wb wc wl wo wd wm wp cB cI cJ win won whn wpl wdn wfo wmn wpn wbn wcn wat wnu wif whf wbf (upd wcf wcn.toNatClampNeg (wbf x16.toNatClampNeg)) wlf) H := hP
      have hD : va_D A (wd_Mo_readPart w wi wh wb wc wl wo wd wm wp cB cI cJ win won whn wpl wdn wfo wmn wpn wbn wcn wat wnu wif whf wbf (upd wcf wcn.toNatClampNeg (wbf x16.toNatClampNeg)) wlf) := hD
      refine lv_aload_n hx hb d_Mo_readPart_385 rfl (lv_at hl 0 rfl) ?_
      refine lv_dup hx hb d_Mo_readPart_386 rfl ?_
      refine va_get (D := (dC, dI)) (ci := 7) (v := .int wcn) (C := R_Mo) (T := T_Mo) (N := 21) hx hb hts w_359 hown hK hP 0 rfl rfl 17 (by decide) (hts _ w_458) (fun _ h9 => h9) rfl d_Mo_readPart_387 ?_
      refine lv_iconst (v := 1) hx hb d_Mo_readPart_390 (by decide) ?_
      refine lv_iadd hx hb d_Mo_readPart_391 ?_
      refine va_put (D := (dC, dI)) (ci := 7) (v := .int (wcn + (1 : Int32))) (ty := .int) (C := R_Mo) (T := T_Mo) (N := 21) hx hb hts w_359 ty_Mo ty_Mo_ok nm_Mo hown hK hP hD hS 0 rfl rfl 17 (by decide) (hts _ w_458) (fun _ h9 => h9) rfl (by decide +kernel) rfl rfl (Nat.le_of_ble_eq_true rfl) d_Mo_readPart_392 (fun H locs hP hD hS => ?_)
      have hP : va_P (dC, dI) vwCl (wd_Mo_readPart w wi wh wb wc wl wo wd wm wp cB cI cJ win won whn wpl wdn wfo wmn wpn wbn (wcn + (1 : Int32)) wat wnu wif whf wbf (upd wcf wcn.toNatClampNeg (wbf x16.toNatClampNeg)) wlf) H := hP
      have hD : va_D A (wd_Mo_readPart w wi wh wb wc wl wo wd wm wp cB cI cJ win won whn wpl wdn wfo wmn wpn wbn (wcn + (1 : Int32)) wat wnu wif whf wbf (upd wcf wcn.toNatClampNeg (wbf x16.toNatClampNeg)) wlf) := hD
      refine lv_iinc (v := (x16 + 1)) (lv' := [(16, .int (x16 + 1)), (0, .ref w), (12, .int x12)]) hx hb d_Mo_readPart_395 hl (k := 2) rfl (congrArg (fun z => x16 + z) (by decide)) (by decide) rfl (fun ls hl => ?_)
      refine lv_goto (tgt := 360) hx hb d_Mo_readPart_398 (by decide) ?_
      exact ih360 (x16 + 1) (wcn + (1 : Int32)) (upd wcf wcn.toNatClampNeg (wbf x16.toNatClampNeg)) hf _ _ hP hD hS _ (lv_sub hl [1, 2, 0] rfl)
noncomputable def j_Mo_readPart_319 (N : Nat) (x10 : Int32) (x11 : Int32) (x12 : Int32) (x13 : Int32) (wpl : Int32) (wbn : Int32) (wcn : Int32) (wnu : Int32) (wif : Nat → Int32) (wbf : Nat → Int32) (wcf : Nat → Int32) (wlf : Nat → Int64)  : Option (Int32 × Int32 × Int32 × Int32 × Int32 × Int32 × (Nat → Int32) × (Nat → Int32) × (Nat → Int64)) :=
  bd6 (f_Mo_readBlock N x10 x11 x13 wpl wbn wnu wif wbf) (fun r332 wpl_332 wbn_332 wat_332 wnu_332 wbf_332 => (if r332 ≤ 0 then (loop3 (b_Mo_readPart_360 x12 wpl_332 wbn_332 wnu_332 wbf_332 wlf ) N wbn wcn wcf) else (if r332 = (1 : Int32) then (some ((9 : Int32), wpl_332, wbn_332, wcn, wat_332, wnu_332, wbf_332, wcf, wlf) : Option (Int32 × Int32 × Int32 × Int32 × Int32 × Int32 × (Nat → Int32) × (Nat → Int32) × (Nat → Int64))) else (some (r332, wpl_332, wbn_332, wcn, wat_332, wnu_332, wbf_332, wcf, wlf) : Option (Int32 × Int32 × Int32 × Int32 × Int32 × Int32 × (Nat → Int32) × (Nat → Int32) × (Nat → Int64))))))
set_option maxHeartbeats 4000000 in
set_option maxRecDepth 100000 in
theorem k_Mo_readPart_319 {r_z : Int32} {wpl_z : Int32} {wbn_z : Int32} {wcn_z : Int32} {wat_z : Int32} {wnu_z : Int32} {wbf_z : Nat → Int32} {wcf_z : Nat → Int32} {wlf_z : Nat → Int64} (C : Fx p s m args meth c cd_Mo_readPart 17 R_Mo lw_g (some .int)) (hK : va_K (dC, dI) vwCl [(cB, .byte), (cI, .int), (cJ, .long)] s) (hA : ∀ q, s.heap.size ≤ q → A q) (x10 : Int32) (x11 : Int32) (x12 : Int32) (x13 : Int32) (win : Int32) (won : Int32) (whn : Int32) (wpl : Int32) (wdn : Int32) (wfo : Int32) (wmn : Int32) (wpn : Int32) (wbn : Int32) (wcn : Int32) (wat : Int32) (wnu : Int32) (wif : Nat → Int32) (whf : Nat → Int32) (wbf : Nat → Int32) (wcf : Nat → Int32) (wlf : Nat → Int64)  (hf : j_Mo_readPart_319 N x10 x11 x12 x13 wpl wbn wcn wnu wif wbf wcf wlf  = some (r_z, wpl_z, wbn_z, wcn_z, wat_z, wnu_z, wbf_z, wcf_z, wlf_z)) (hP : va_P (dC, dI) vwCl (wd_Mo_readPart w wi wh wb wc wl wo wd wm wp cB cI cJ win won whn wpl wdn wfo wmn wpn wbn wcn wat wnu wif whf wbf wcf wlf) H) (hD : va_D A (wd_Mo_readPart w wi wh wb wc wl wo wd wm wp cB cI cJ win won whn wpl wdn wfo wmn wpn wbn wcn wat wnu wif whf wbf wcf wlf)) (hS : va_S A s.heap H locs) (hl : lv_has ls 17 [(0, .ref w), (10, .int x10), (11, .int x11), (12, .int x12), (13, .int x13)]) : W p l e rm_Mo_readPart s m args below meth c H locs 0 0 (MQ below (sQi (dC, dI) vwCl [(cB, .byte), (cI, .int), (cJ, .long)] A r_z (wd_Mo_readPart w wi wh wb wc wl wo wd wm wp cB cI cJ win won whn wpl_z wdn wfo wmn wpn wbn_z wcn_z wat_z wnu_z wif whf wbf_z wcf_z wlf_z)) args s 0 0 A) (F0 m 319 ls []) := by
  obtain ⟨hx, hb, hml, hown, hts, hr, hlocks, hZ⟩ := id C
  unfold j_Mo_readPart_319 at hf
  refine lv_aload_n hx hb d_Mo_readPart_319 rfl (lv_at hl 0 rfl) ?_
  refine va_get (D := (dC, dI)) (ci := 7) (v := .int wbn) (C := R_Mo) (T := T_Mo) (N := 21) hx hb hts w_359 hown hK hP 0 rfl rfl 15 (by decide) (hts _ w_375) (fun _ h9 => h9) rfl d_Mo_readPart_320 ?_
  refine lv_istore (lv' := [(14, .int wbn), (0, .ref w), (10, .int x10), (11, .int x11), (12, .int x12), (13, .int x13)]) hx hb d_Mo_readPart_323 hl (by decide) rfl (fun ls hl => ?_)
  refine lv_aload_n hx hb d_Mo_readPart_325 rfl (lv_at hl 1 rfl) ?_
  refine lv_iload hx hb d_Mo_readPart_326 (lv_at hl 2 rfl) ?_
  refine lv_iload hx hb d_Mo_readPart_328 (lv_at hl 3 rfl) ?_
  refine lv_iload hx hb d_Mo_readPart_330 (lv_at hl 5 rfl) ?_
  obtain ⟨r332, wpl_332, wbn_332, wat_332, wnu_332, wbf_332, hc332, hf⟩ := bd6_some hf
  refine s_Vi (As := [.int x10, .int x11, .int x13]) (rest := []) (wr := [(wh, .inl (cI, 8000, .inl whf)), (wc, .inl (cI, 8000, .inl wcf)), (wl, .inl (cJ, 4, .inr (.inl wlf)))]) (ws' := wd_Mo_readPart w wi wh wb wc wl wo wd wm wp cB cI cJ win won whn wpl_332 wdn wfo wmn wpn wbn_332 wcn wat_332 wnu_332 wif whf wbf_332 wcf wlf) C.call (c_Mo_readBlock l dC dI cB cI cJ w wi wb wo wh wd wm wp wc wl  win won whn wpl wdn wfo wmn wpn wbn wcn wat wnu wif wbf x10 x11 x13 hc332) (cwV 3 hts (gd_V w_463 w_464 w_465 w_365 w_466) rfl rfl rfl ⟨rfl, hd_Mo_readBlock⟩ ⟨Nat.le_of_ble_eq_true rfl, Nat.le_of_ble_eq_true rfl⟩) rfl hl.1 rfl (Nat.le_of_ble_eq_true rfl) d_Mo_readPart_332 ⟨Nat.le_of_ble_eq_true rfl, Nat.le_of_ble_eq_true rfl⟩ hZ hK hP hD hS hA 7 0 rfl rfl [0, 1, 3] [2, 4, 5] [3, 4, 0, 5, 1, 2] rfl rfl rfl rfl (by decide) rfl rfl (fun H locs hP hD hS => ?_)
  refine lv_istore (lv' := [(15, .int r332), (14, .int wbn), (0, .ref w), (10, .int x10), (11, .int x11), (12, .int x12), (13, .int x13)]) hx hb d_Mo_readPart_335 hl (by decide) rfl (fun ls hl => ?_)
  refine lv_iload hx hb d_Mo_readPart_337 (lv_at hl 0 rfl) ?_
  refine lv_if_le (tgt := 356) hx hb d_Mo_readPart_339 (by decide) (fun c_339 => ?_) (fun c_339 => ?_)
  · have hf := br_pos c_339 hf
    refine lv_iload hx hb d_Mo_readPart_356 (lv_at hl 1 rfl) ?_
    refine lv_istore (lv' := [(16, .int wbn), (15, .int r332), (14, .int wbn), (0, .ref w), (10, .int x10), (11, .int x11), (12, .int x12), (13, .int x13)]) hx hb d_Mo_readPart_358 hl (by decide) rfl (fun ls hl => ?_)
    exact k_Mo_readPart_360 C hK hA x12 win won whn wpl_332 wdn wfo wmn wpn wbn_332 wat_332 wnu_332 wif whf wbf_332 wlf  N wbn wcn wcf hf _ _ hP hD hS _ (lv_sub hl [3, 6, 0] rfl)
  · have hf := br_neg c_339 hf
    refine lv_iload hx hb d_Mo_readPart_342 (lv_at hl 0 rfl) ?_
    refine lv_iconst (v := 1) hx hb d_Mo_readPart_344 (by decide) ?_
    refine lv_icmp_ne (tgt := 353) hx hb d_Mo_readPart_345 (by decide) (fun c_345 => ?_) (fun c_345 => ?_)
    · have hf := br_neg c_345 hf
      refine lv_iload hx hb d_Mo_readPart_353 (lv_at hl 0 rfl) ?_
      cases hf
      exact s_iret hx hb hr hlocks hP hK hD hS d_Mo_readPart_355
    · have hf := br_pos c_345 hf
      refine lv_bipush (v := 9) hx hb d_Mo_readPart_348 (by decide) ?_
      refine lv_goto (tgt := 355) hx hb d_Mo_readPart_350 (by decide) ?_
      cases hf
      exact s_iret hx hb hr hlocks hP hK hD hS d_Mo_readPart_355
noncomputable def b_Mo_readPart_271 (N : Nat) (x3 : Int32) (x10 : Int32) (x11 : Int32) (x12 : Int32) (x13 : Int32) (wpl : Int32) (wcn : Int32) (wnu : Int32) (wif : Nat → Int32) (wcf : Nat → Int32) (wlf : Nat → Int64)  (kh271 : Int32 → Int32 → (Nat → Int32) → Option (Int32 × Int32 × Int32 × Int32 × Int32 × Int32 × (Nat → Int32) × (Nat → Int32) × (Nat → Int64))) (x14 : Int32) (wbn : Int32) (wbf : Nat → Int32) : Option (Int32 × Int32 × Int32 × Int32 × Int32 × Int32 × (Nat → Int32) × (Nat → Int32) × (Nat → Int64)) :=
  (if wcn ≤ x14 then (j_Mo_readPart_319 N x10 x11 x12 x13 wpl wbn wcn wnu wif wbf wcf wlf ) else (if (x3 &&& (32 : Int32)) = 0 then as_ (vp_in x14 8000) (as_ (vp_in wbn 16000) ((kh271 (x14 + 1) (wbn + (1 : Int32)) (upd wbf wbn.toNatClampNeg (wcf x14.toNatClampNeg))))) else (j_Mo_readPart_319 N x10 x11 x12 x13 wpl wbn wcn wnu wif wbf wcf wlf )))
set_option maxHeartbeats 4000000 in
set_option maxRecDepth 100000 in
theorem k_Mo_readPart_271 {r_z : Int32} {wpl_z : Int32} {wbn_z : Int32} {wcn_z : Int32} {wat_z : Int32} {wnu_z : Int32} {wbf_z : Nat → Int32} {wcf_z : Nat → Int32} {wlf_z : Nat → Int64} (C : Fx p s m args meth c cd_Mo_readPart 17 R_Mo lw_g (some .int)) (hK : va_K (dC, dI) vwCl [(cB, .byte), (cI, .int), (cJ, .long)] s) (hA : ∀ q, s.heap.size ≤ q → A q) (x3 : Int32) (x10 : Int32) (x11 : Int32) (x12 : Int32) (x13 : Int32) (win : Int32) (won : Int32) (whn : Int32) (wpl : Int32) (wdn : Int32) (wfo : Int32) (wmn : Int32) (wpn : Int32) (wcn : Int32) (wat : Int32) (wnu : Int32) (wif : Nat → Int32) (whf : Nat → Int32) (wcf : Nat → Int32) (wlf : Nat → Int64)  : ∀ (n : Nat) (x14 : Int32) (wbn : Int32) (wbf : Nat → Int32), loop3 (b_Mo_readPart_271 N x3 x10 x11 x12 x13 wpl wcn wnu wif wcf wlf ) n x14 wbn wbf = some (r_z, wpl_z, wbn_z, wcn_z, wat_z, wnu_z, wbf_z, wcf_z, wlf_z) → ∀ (H : Heap) (locs : List Loc), va_P (dC, dI) vwCl (wd_Mo_readPart w wi wh wb wc wl wo wd wm wp cB cI cJ win won whn wpl wdn wfo wmn wpn wbn wcn wat wnu wif whf wbf wcf wlf) H → va_D A (wd_Mo_readPart w wi wh wb wc wl wo wd wm wp cB cI cJ win won whn wpl wdn wfo wmn wpn wbn wcn wat wnu wif whf wbf wcf wlf) → va_S A s.heap H locs → ∀ (ls : Array Slot), lv_has ls 17 [(0, .ref w), (3, .int x3), (10, .int x10), (11, .int x11), (12, .int x12), (13, .int x13), (14, .int x14)] → W p l e rm_Mo_readPart s m args below meth c H locs 0 0 (MQ below (sQi (dC, dI) vwCl [(cB, .byte), (cI, .int), (cJ, .long)] A r_z (wd_Mo_readPart w wi wh wb wc wl wo wd wm wp cB cI cJ win won whn wpl_z wdn wfo wmn wpn wbn_z wcn_z wat_z wnu_z wif whf wbf_z wcf_z wlf_z)) args s 0 0 A) (F0 m 271 ls []) := by
  obtain ⟨hx, hb, hml, hown, hts, hr, hlocks, hZ⟩ := id C
  intro n
  induction n with
  | zero => intro x14 wbn wbf hf; cases hf
  | succ n ih271 =>
    intro x14 wbn wbf hf H locs hP hD hS ls hl
    have hf : b_Mo_readPart_271 N x3 x10 x11 x12 x13 wpl wcn wnu wif wcf wlf  (loop3 (b_Mo_readPart_271 N x3 x10 x11 x12 x13 wpl wcn wnu wif wcf wlf ) n) x14 wbn wbf = some (r_z, wpl_z, wbn_z, wcn_z, wat_z, wnu_z, wbf_z, wcf_z, wlf_z) := hf
    generalize loop3 (b_Mo_readPart_271 N x3 x10 x11 x12 x13 wpl wcn wnu wif wcf wlf ) n = kh271 at hf ih271
    unfold b_Mo_readPart_271 at hf
    refine lv_iload hx hb d_Mo_readPart_271 (lv_at hl 6 rfl) ?_
    refine lv_aload_n hx hb d_Mo_readPart_273 rfl (lv_at hl 0 rfl) ?_
    refine va_get (D := (dC, dI)) (ci := 7) (v := .int wcn) (C := R_Mo) (T := T_Mo) (N := 21) hx hb hts w_359 hown hK hP 0 rfl rfl 17 (by decide) (hts _ w_458) (fun _ h9 => h9) rfl d_Mo_readPart_274 ?_
    refine lv_icmp_ge (tgt := 319) hx hb d_Mo_readPart_277 (by decide) (fun c_277 => ?_) (fun c_277 => ?_)
    · have hf := br_pos c_277 hf
      exact k_Mo_readPart_319 C hK hA x10 x11 x12 x13 win won whn wpl wdn wfo wmn wpn wbn wcn wat wnu wif whf wbf wcf wlf  hf hP hD hS (lv_sub hl [0, 2, 3, 4, 5] rfl)
    · have hf := br_neg c_277 hf
      refine lv_iload_n hx hb d_Mo_readPart_280 rfl (lv_at hl 1 rfl) ?_
      refine lv_bipush (v := 32) hx hb d_Mo_readPart_281 (by decide) ?_
      refine lv_iand hx hb d_Mo_readPart_283 ?_
      refine lv_if_ne (tgt := 319) hx hb d_Mo_readPart_284 (by decide) (fun c_284 => ?_) (fun c_284 => ?_)
      · have hf := br_neg c_284 hf
        exact k_Mo_readPart_319 C hK hA x10 x11 x12 x13 win won whn wpl wdn wfo wmn wpn wbn wcn wat wnu wif whf wbf wcf wlf  hf hP hD hS (lv_sub hl [0, 2, 3, 4, 5] rfl)
      · have hf := br_pos c_284 hf
        refine lv_aload_n hx hb d_Mo_readPart_287 rfl (lv_at hl 0 rfl) ?_
        refine va_get (D := (dC, dI)) (ci := 7) (v := .ref wb) (C := R_Mo) (T := T_Mo) (N := 21) hx hb hts w_359 hown hK hP 0 rfl rfl 14 (by decide) (hts _ w_376) (fun _ h9 => h9) rfl d_Mo_readPart_288 ?_
        refine lv_aload_n hx hb d_Mo_readPart_291 rfl (lv_at hl 0 rfl) ?_
        refine va_get (D := (dC, dI)) (ci := 7) (v := .int wbn) (C := R_Mo) (T := T_Mo) (N := 21) hx hb hts w_359 hown hK hP 0 rfl rfl 15 (by decide) (hts _ w_375) (fun _ h9 => h9) rfl d_Mo_readPart_292 ?_
        refine lv_aload_n hx hb d_Mo_readPart_295 rfl (lv_at hl 0 rfl) ?_
        refine va_get (D := (dC, dI)) (ci := 7) (v := .ref wc) (C := R_Mo) (T := T_Mo) (N := 21) hx hb hts w_359 hown hK hP 0 rfl rfl 16 (by decide) (hts _ w_467) (fun _ h9 => h9) rfl d_Mo_readPart_296 ?_
        refine lv_iload hx hb d_Mo_readPart_299 (lv_at hl 6 rfl) ?_
        obtain ⟨h_in, hf⟩ := as_some hf
        refine va_iald hx hb hK hP 4 1 rfl rfl h_in d_Mo_readPart_301 ?_
        obtain ⟨h_in, hf⟩ := as_some hf
        refine va_iast hx hb hK hP hD hS 3 1 rfl rfl h_in d_Mo_readPart_302 (fun H locs hP hD hS => ?_)
        have hP : va_P (dC, dI) vwCl (wd_Mo_readPart w wi wh wb wc wl wo wd wm wp cB cI cJ win won whn wpl wdn wfo wmn wpn wbn wcn wat wnu wif whf (upd wbf wbn.toNatClampNeg (wcf x14.toNatClampNeg)) wcf wlf) H := hP
        have hD : va_D A (wd_Mo_readPart w wi wh wb wc wl wo wd wm wp cB cI cJ win won whn wpl wdn wfo wmn wpn wbn wcn wat wnu wif whf (upd wbf wbn.toNatClampNeg (wcf x14.toNatClampNeg)) wcf wlf) := hD
        refine lv_aload_n hx hb d_Mo_readPart_303 rfl (lv_at hl 0 rfl) ?_
        refine lv_dup hx hb d_Mo_readPart_304 rfl ?_
        refine va_get (D := (dC, dI)) (ci := 7) (v := .int wbn) (C := R_Mo) (T := T_Mo) (N := 21) hx hb hts w_359 hown hK hP 0 rfl rfl 15 (by decide) (hts _ w_375) (fun _ h9 => h9) rfl d_Mo_readPart_305 ?_
        refine lv_iconst (v := 1) hx hb d_Mo_readPart_308 (by decide) ?_
        refine lv_iadd hx hb d_Mo_readPart_309 ?_
        refine va_put (D := (dC, dI)) (ci := 7) (v := .int (wbn + (1 : Int32))) (ty := .int) (C := R_Mo) (T := T_Mo) (N := 21) hx hb hts w_359 ty_Mo ty_Mo_ok nm_Mo hown hK hP hD hS 0 rfl rfl 15 (by decide) (hts _ w_375) (fun _ h9 => h9) rfl (by decide +kernel) rfl rfl (Nat.le_of_ble_eq_true rfl) d_Mo_readPart_310 (fun H locs hP hD hS => ?_)
        have hP : va_P (dC, dI) vwCl (wd_Mo_readPart w wi wh wb wc wl wo wd wm wp cB cI cJ win won whn wpl wdn wfo wmn wpn (wbn + (1 : Int32)) wcn wat wnu wif whf (upd wbf wbn.toNatClampNeg (wcf x14.toNatClampNeg)) wcf wlf) H := hP
        have hD : va_D A (wd_Mo_readPart w wi wh wb wc wl wo wd wm wp cB cI cJ win won whn wpl wdn wfo wmn wpn (wbn + (1 : Int32)) wcn wat wnu wif whf (upd wbf wbn.toNatClampNeg (wcf x14.toNatClampNeg)) wcf wlf) := hD
        refine lv_iinc (v := (x14 + 1)) (lv' := [(14, .int (x14 + 1)), (0, .ref w), (3, .int x3), (10, .int x10), (11, .int x11), (12, .int x12), (13, .int x13)]) hx hb d_Mo_readPart_313 hl (k := 6) rfl (congrArg (fun z => x14 + z) (by decide)) (by decide) rfl (fun ls hl => ?_)
        refine lv_goto (tgt := 271) hx hb d_Mo_readPart_316 (by decide) ?_
        exact ih271 (x14 + 1) (wbn + (1 : Int32)) (upd wbf wbn.toNatClampNeg (wcf x14.toNatClampNeg)) hf _ _ hP hD hS _ (lv_sub hl [1, 2, 3, 4, 5, 6, 0] rfl)
noncomputable def b_Mo_readPart_222 (x11 : Int32) (wpl : Int32) (wbn : Int32) (wat : Int32) (wnu : Int32) (wif : Nat → Int32) (wbf : Nat → Int32) (wlf : Nat → Int64)  (kh222 : Int32 → Int32 → (Nat → Int32) → Option (Int32 × Int32 × Int32 × Int32 × Int32 × Int32 × (Nat → Int32) × (Nat → Int32) × (Nat → Int64))) (x14 : Int32) (wcn : Int32) (wcf : Nat → Int32) : Option (Int32 × Int32 × Int32 × Int32 × Int32 × Int32 × (Nat → Int32) × (Nat → Int32) × (Nat → Int64)) :=
  (if x11 ≤ x14 then (some ((0 : Int32), wpl, wbn, wcn, wat, wnu, wbf, wcf, wlf) : Option (Int32 × Int32 × Int32 × Int32 × Int32 × Int32 × (Nat → Int32) × (Nat → Int32) × (Nat → Int64))) else as_ (vp_in x14 8000) (as_ (vp_in wcn 8000) ((kh222 (x14 + 1) (wcn + (1 : Int32)) (upd wcf wcn.toNatClampNeg (wif x14.toNatClampNeg))))))
set_option maxHeartbeats 4000000 in
set_option maxRecDepth 100000 in
theorem k_Mo_readPart_222 {r_z : Int32} {wpl_z : Int32} {wbn_z : Int32} {wcn_z : Int32} {wat_z : Int32} {wnu_z : Int32} {wbf_z : Nat → Int32} {wcf_z : Nat → Int32} {wlf_z : Nat → Int64} (C : Fx p s m args meth c cd_Mo_readPart 17 R_Mo lw_g (some .int)) (hK : va_K (dC, dI) vwCl [(cB, .byte), (cI, .int), (cJ, .long)] s) (hA : ∀ q, s.heap.size ≤ q → A q) (x11 : Int32) (win : Int32) (won : Int32) (whn : Int32) (wpl : Int32) (wdn : Int32) (wfo : Int32) (wmn : Int32) (wpn : Int32) (wbn : Int32) (wat : Int32) (wnu : Int32) (wif : Nat → Int32) (whf : Nat → Int32) (wbf : Nat → Int32) (wlf : Nat → Int64)  : ∀ (n : Nat) (x14 : Int32) (wcn : Int32) (wcf : Nat → Int32), loop3 (b_Mo_readPart_222 x11 wpl wbn wat wnu wif wbf wlf ) n x14 wcn wcf = some (r_z, wpl_z, wbn_z, wcn_z, wat_z, wnu_z, wbf_z, wcf_z, wlf_z) → ∀ (H : Heap) (locs : List Loc), va_P (dC, dI) vwCl (wd_Mo_readPart w wi wh wb wc wl wo wd wm wp cB cI cJ win won whn wpl wdn wfo wmn wpn wbn wcn wat wnu wif whf wbf wcf wlf) H → va_D A (wd_Mo_readPart w wi wh wb wc wl wo wd wm wp cB cI cJ win won whn wpl wdn wfo wmn wpn wbn wcn wat wnu wif whf wbf wcf wlf) → va_S A s.heap H locs → ∀ (ls : Array Slot), lv_has ls 17 [(0, .ref w), (11, .int x11), (14, .int x14)] → W p l e rm_Mo_readPart s m args below meth c H locs 0 0 (MQ below (sQi (dC, dI) vwCl [(cB, .byte), (cI, .int), (cJ, .long)] A r_z (wd_Mo_readPart w wi wh wb wc wl wo wd wm wp cB cI cJ win won whn wpl_z wdn wfo wmn wpn wbn_z wcn_z wat_z wnu_z wif whf wbf_z wcf_z wlf_z)) args s 0 0 A) (F0 m 222 ls []) := by
  obtain ⟨hx, hb, hml, hown, hts, hr, hlocks, hZ⟩ := id C
  intro n
  induction n with
  | zero => intro x14 wcn wcf hf; cases hf
  | succ n ih222 =>
    intro x14 wcn wcf hf H locs hP hD hS ls hl
    have hf : b_Mo_readPart_222 x11 wpl wbn wat wnu wif wbf wlf  (loop3 (b_Mo_readPart_222 x11 wpl wbn wat wnu wif wbf wlf ) n) x14 wcn wcf = some (r_z, wpl_z, wbn_z, wcn_z, wat_z, wnu_z, wbf_z, wcf_z, wlf_z) := hf
    generalize loop3 (b_Mo_readPart_222 x11 wpl wbn wat wnu wif wbf wlf ) n = kh222 at hf ih222
    unfold b_Mo_readPart_222 at hf
    refine lv_iload hx hb d_Mo_readPart_222 (lv_at hl 2 rfl) ?_
    refine lv_iload hx hb d_Mo_readPart_224 (lv_at hl 1 rfl) ?_
    refine lv_icmp_ge (tgt := 261) hx hb d_Mo_readPart_226 (by decide) (fun c_226 => ?_) (fun c_226 => ?_)
    · have hf := br_pos c_226 hf
      refine lv_iconst (v := 0) hx hb d_Mo_readPart_261 (by decide) ?_
      cases hf
      exact s_iret hx hb hr hlocks hP hK hD hS d_Mo_readPart_262
    · have hf := br_neg c_226 hf
      refine lv_aload_n hx hb d_Mo_readPart_229 rfl (lv_at hl 0 rfl) ?_
      refine va_get (D := (dC, dI)) (ci := 7) (v := .ref wc) (C := R_Mo) (T := T_Mo) (N := 21) hx hb hts w_359 hown hK hP 0 rfl rfl 16 (by decide) (hts _ w_467) (fun _ h9 => h9) rfl d_Mo_readPart_230 ?_
      refine lv_aload_n hx hb d_Mo_readPart_233 rfl (lv_at hl 0 rfl) ?_
      refine va_get (D := (dC, dI)) (ci := 7) (v := .int wcn) (C := R_Mo) (T := T_Mo) (N := 21) hx hb hts w_359 hown hK hP 0 rfl rfl 17 (by decide) (hts _ w_458) (fun _ h9 => h9) rfl d_Mo_readPart_234 ?_
      refine lv_aload_n hx hb d_Mo_readPart_237 rfl (lv_at hl 0 rfl) ?_
      refine va_get (D := (dC, dI)) (ci := 7) (v := .ref wi) (C := R_Mo) (T := T_Mo) (N := 21) hx hb hts w_359 hown hK hP 0 rfl rfl 0 (by decide) (hts _ w_369) (fun _ h9 => h9) rfl d_Mo_readPart_238 ?_
      refine lv_iload hx hb d_Mo_readPart_241 (lv_at hl 2 rfl) ?_
      obtain ⟨h_in, hf⟩ := as_some hf
      refine va_iald hx hb hK hP 1 1 rfl rfl h_in d_Mo_readPart_243 ?_
      obtain ⟨h_in, hf⟩ := as_some hf
      refine va_iast hx hb hK hP hD hS 4 1 rfl rfl h_in d_Mo_readPart_244 (fun H locs hP hD hS => ?_)
      have hP : va_P (dC, dI) vwCl (wd_Mo_readPart w wi wh wb wc wl wo wd wm wp cB cI cJ win won whn wpl wdn wfo wmn wpn wbn wcn wat wnu wif whf wbf (upd wcf wcn.toNatClampNeg (wif x14.toNatClampNeg)) wlf) H := hP
      have hD : va_D A (wd_Mo_readPart w wi wh wb wc wl wo wd wm wp cB cI cJ win won whn wpl wdn wfo wmn wpn wbn wcn wat wnu wif whf wbf (upd wcf wcn.toNatClampNeg (wif x14.toNatClampNeg)) wlf) := hD
      refine lv_aload_n hx hb d_Mo_readPart_245 rfl (lv_at hl 0 rfl) ?_
      refine lv_dup hx hb d_Mo_readPart_246 rfl ?_
      refine va_get (D := (dC, dI)) (ci := 7) (v := .int wcn) (C := R_Mo) (T := T_Mo) (N := 21) hx hb hts w_359 hown hK hP 0 rfl rfl 17 (by decide) (hts _ w_458) (fun _ h9 => h9) rfl d_Mo_readPart_247 ?_
      refine lv_iconst (v := 1) hx hb d_Mo_readPart_250 (by decide) ?_
      refine lv_iadd hx hb d_Mo_readPart_251 ?_
      refine va_put (D := (dC, dI)) (ci := 7) (v := .int (wcn + (1 : Int32))) (ty := .int) (C := R_Mo) (T := T_Mo) (N := 21) hx hb hts w_359 ty_Mo ty_Mo_ok nm_Mo hown hK hP hD hS 0 rfl rfl 17 (by decide) (hts _ w_458) (fun _ h9 => h9) rfl (by decide +kernel) rfl rfl (Nat.le_of_ble_eq_true rfl) d_Mo_readPart_252 (fun H locs hP hD hS => ?_)
      have hP : va_P (dC, dI) vwCl (wd_Mo_readPart w wi wh wb wc wl wo wd wm wp cB cI cJ win won whn wpl wdn wfo wmn wpn wbn (wcn + (1 : Int32)) wat wnu wif whf wbf (upd wcf wcn.toNatClampNeg (wif x14.toNatClampNeg)) wlf) H := hP
      have hD : va_D A (wd_Mo_readPart w wi wh wb wc wl wo wd wm wp cB cI cJ win won whn wpl wdn wfo wmn wpn wbn (wcn + (1 : Int32)) wat wnu wif whf wbf (upd wcf wcn.toNatClampNeg (wif x14.toNatClampNeg)) wlf) := hD
      refine lv_iinc (v := (x14 + 1)) (lv' := [(14, .int (x14 + 1)), (0, .ref w), (11, .int x11)]) hx hb d_Mo_readPart_255 hl (k := 2) rfl (congrArg (fun z => x14 + z) (by decide)) (by decide) rfl (fun ls hl => ?_)
      refine lv_goto (tgt := 222) hx hb d_Mo_readPart_258 (by decide) ?_
      exact ih222 (x14 + 1) (wcn + (1 : Int32)) (upd wcf wcn.toNatClampNeg (wif x14.toNatClampNeg)) hf _ _ hP hD hS _ (lv_sub hl [1, 2, 0] rfl)
noncomputable def j_Mo_readPart_178 (N : Nat) (x3 : Int32) (x5 : Int32) (x6 : Int32) (x7 : Int32) (x8 : Int64) (x10 : Int32) (x11 : Int32) (whn : Int32) (wpl : Int32) (wbn : Int32) (wcn : Int32) (wat : Int32) (wnu : Int32) (wif : Nat → Int32) (whf : Nat → Int32) (wbf : Nat → Int32) (wcf : Nat → Int32) (wlf : Nat → Int64)  : Option (Int32 × Int32 × Int32 × Int32 × Int32 × Int32 × (Nat → Int32) × (Nat → Int32) × (Nat → Int64)) :=
  (if x7 = 0 then bd2 (f_Mo_beginBack N whn whf wbf) (fun wbn_264 wbf_264 => (loop3 (b_Mo_readPart_271 N x3 x10 x11 wat (x6 - wcn) wpl wcn wnu wif wcf wlf ) N x5 wbn_264 wbf_264)) else (if (lg_cmp x8 ((x6 - wcn).toInt64)) ≤ 0 then (loop3 (b_Mo_readPart_222 x11 wpl wbn wat wnu wif wbf wlf ) N x10 wcn wcf) else bd2 (f_Mo_fault (3 : Int32) (x10 + (x6 - wcn))) (fun r214 wpl_214 => (some (r214, wpl_214, wbn, wcn, wat, wnu, wbf, wcf, wlf) : Option (Int32 × Int32 × Int32 × Int32 × Int32 × Int32 × (Nat → Int32) × (Nat → Int32) × (Nat → Int64))))))
set_option maxHeartbeats 4000000 in
set_option maxRecDepth 100000 in
theorem k_Mo_readPart_178 {r_z : Int32} {wpl_z : Int32} {wbn_z : Int32} {wcn_z : Int32} {wat_z : Int32} {wnu_z : Int32} {wbf_z : Nat → Int32} {wcf_z : Nat → Int32} {wlf_z : Nat → Int64} (C : Fx p s m args meth c cd_Mo_readPart 17 R_Mo lw_g (some .int)) (hK : va_K (dC, dI) vwCl [(cB, .byte), (cI, .int), (cJ, .long)] s) (hA : ∀ q, s.heap.size ≤ q → A q) (x3 : Int32) (x5 : Int32) (x6 : Int32) (x7 : Int32) (x8 : Int64) (x10 : Int32) (x11 : Int32) (win : Int32) (won : Int32) (whn : Int32) (wpl : Int32) (wdn : Int32) (wfo : Int32) (wmn : Int32) (wpn : Int32) (wbn : Int32) (wcn : Int32) (wat : Int32) (wnu : Int32) (wif : Nat → Int32) (whf : Nat → Int32) (wbf : Nat → Int32) (wcf : Nat → Int32) (wlf : Nat → Int64)  (hf : j_Mo_readPart_178 N x3 x5 x6 x7 x8 x10 x11 whn wpl wbn wcn wat wnu wif whf wbf wcf wlf  = some (r_z, wpl_z, wbn_z, wcn_z, wat_z, wnu_z, wbf_z, wcf_z, wlf_z)) (hP : va_P (dC, dI) vwCl (wd_Mo_readPart w wi wh wb wc wl wo wd wm wp cB cI cJ win won whn wpl wdn wfo wmn wpn wbn wcn wat wnu wif whf wbf wcf wlf) H) (hD : va_D A (wd_Mo_readPart w wi wh wb wc wl wo wd wm wp cB cI cJ win won whn wpl wdn wfo wmn wpn wbn wcn wat wnu wif whf wbf wcf wlf)) (hS : va_S A s.heap H locs) (hl : lv_has ls 17 [(0, .ref w), (3, .int x3), (5, .int x5), (6, .int x6), (7, .int x7), (8, .long x8), (10, .int x10), (11, .int x11)]) : W p l e rm_Mo_readPart s m args below meth c H locs 0 0 (MQ below (sQi (dC, dI) vwCl [(cB, .byte), (cI, .int), (cJ, .long)] A r_z (wd_Mo_readPart w wi wh wb wc wl wo wd wm wp cB cI cJ win won whn wpl_z wdn wfo wmn wpn wbn_z wcn_z wat_z wnu_z wif whf wbf_z wcf_z wlf_z)) args s 0 0 A) (F0 m 178 ls []) := by
  obtain ⟨hx, hb, hml, hown, hts, hr, hlocks, hZ⟩ := id C
  unfold j_Mo_readPart_178 at hf
  refine lv_aload_n hx hb d_Mo_readPart_178 rfl (lv_at hl 0 rfl) ?_
  refine va_get (D := (dC, dI)) (ci := 7) (v := .int wat) (C := R_Mo) (T := T_Mo) (N := 21) hx hb hts w_359 hown hK hP 0 rfl rfl 19 (by decide) (hts _ w_368) (fun _ h9 => h9) rfl d_Mo_readPart_179 ?_
  refine lv_istore (lv' := [(12, .int wat), (0, .ref w), (3, .int x3), (5, .int x5), (6, .int x6), (7, .int x7), (8, .long x8), (10, .int x10), (11, .int x11)]) hx hb d_Mo_readPart_182 hl (by decide) rfl (fun ls hl => ?_)
  refine lv_iload hx hb d_Mo_readPart_184 (lv_at hl 4 rfl) ?_
  refine lv_aload_n hx hb d_Mo_readPart_186 rfl (lv_at hl 1 rfl) ?_
  refine va_get (D := (dC, dI)) (ci := 7) (v := .int wcn) (C := R_Mo) (T := T_Mo) (N := 21) hx hb hts w_359 hown hK hP 0 rfl rfl 17 (by decide) (hts _ w_458) (fun _ h9 => h9) rfl d_Mo_readPart_187 ?_
  refine lv_isub hx hb d_Mo_readPart_190 ?_
  refine lv_istore (lv' := [(13, .int (x6 - wcn)), (12, .int wat), (0, .ref w), (3, .int x3), (5, .int x5), (6, .int x6), (7, .int x7), (8, .long x8), (10, .int x10), (11, .int x11)]) hx hb d_Mo_readPart_191 hl (by decide) rfl (fun ls hl => ?_)
  refine lv_iload hx hb d_Mo_readPart_193 (lv_at hl 6 rfl) ?_
  refine lv_if_eq (tgt := 263) hx hb d_Mo_readPart_195 (by decide) (fun c_195 => ?_) (fun c_195 => ?_)
  · have hf := br_pos c_195 hf
    refine lv_aload_n hx hb d_Mo_readPart_263 rfl (lv_at hl 2 rfl) ?_
    obtain ⟨wbn_264, wbf_264, hc264, hf⟩ := bd2_some hf
    refine s_Vv (As := []) (rest := []) (wr := [(wi, .inl (cI, 8000, .inl wif)), (wc, .inl (cI, 8000, .inl wcf)), (wl, .inl (cJ, 4, .inr (.inl wlf)))]) (ws' := wd_Mo_readPart w wi wh wb wc wl wo wd wm wp cB cI cJ win won whn wpl wdn wfo wmn wpn wbn_264 wcn wat wnu wif whf wbf_264 wcf wlf) C.call (c_Mo_beginBack l dC dI cB cI cJ w wh wb wi wo wd wm wp wc wl  win won whn wpl wdn wfo wmn wpn wbn wcn wat wnu whf wbf  hc264) (cwV 0 hts (gd_V w_459 w_460 w_461 w_365 w_462) rfl rfl rfl ⟨rfl, hd_Mo_beginBack⟩ ⟨Nat.le_of_ble_eq_true rfl, Nat.le_of_ble_eq_true rfl⟩) rfl hl.1 rfl (Nat.le_of_ble_eq_true rfl) d_Mo_readPart_264 ⟨Nat.le_of_ble_eq_true rfl, Nat.le_of_ble_eq_true rfl⟩ hZ hK hP hD hS hA 7 0 rfl rfl [0, 2, 3] [1, 4, 5] [3, 0, 4, 5, 1, 2] rfl rfl rfl rfl (by decide) rfl rfl (fun H locs hP hD hS => ?_)
    refine lv_iload hx hb d_Mo_readPart_267 (lv_at hl 4 rfl) ?_
    refine lv_istore (lv' := [(14, .int x5), (13, .int (x6 - wcn)), (12, .int wat), (0, .ref w), (3, .int x3), (5, .int x5), (6, .int x6), (7, .int x7), (8, .long x8), (10, .int x10), (11, .int x11)]) hx hb d_Mo_readPart_269 hl (by decide) rfl (fun ls hl => ?_)
    exact k_Mo_readPart_271 C hK hA x3 x10 x11 wat (x6 - wcn) win won whn wpl wdn wfo wmn wpn wcn wat wnu wif whf wcf wlf  N x5 wbn_264 wbf_264 hf _ _ hP hD hS _ (lv_sub hl [3, 4, 9, 10, 2, 1, 0] rfl)
  · have hf := br_neg c_195 hf
    refine lv_lload hx hb d_Mo_readPart_198 (lv_at hl 7 rfl) ?_
    refine lv_iload hx hb d_Mo_readPart_200 (lv_at hl 0 rfl) ?_
    refine lv_i2l (v := ((x6 - wcn).toInt64)) hx hb d_Mo_readPart_202 rfl ?_
    refine W.lcmp hx hb d_Mo_readPart_203 ?_
    refine lv_if_le (tgt := 218) hx hb d_Mo_readPart_204 (by decide) (fun c_204 => ?_) (fun c_204 => ?_)
    · have hf := br_pos c_204 hf
      refine lv_iload hx hb d_Mo_readPart_218 (lv_at hl 8 rfl) ?_
      refine lv_istore (lv' := [(14, .int x10), (13, .int (x6 - wcn)), (12, .int wat), (0, .ref w), (3, .int x3), (5, .int x5), (6, .int x6), (7, .int x7), (8, .long x8), (10, .int x10), (11, .int x11)]) hx hb d_Mo_readPart_220 hl (by decide) rfl (fun ls hl => ?_)
      exact k_Mo_readPart_222 C hK hA x11 win won whn wpl wdn wfo wmn wpn wbn wat wnu wif whf wbf wlf  N x10 wcn wcf hf _ _ hP hD hS _ (lv_sub hl [3, 10, 0] rfl)
    · have hf := br_neg c_204 hf
      refine lv_aload_n hx hb d_Mo_readPart_207 rfl (lv_at hl 2 rfl) ?_
      refine lv_iconst (v := 3) hx hb d_Mo_readPart_208 (by decide) ?_
      refine lv_iload hx hb d_Mo_readPart_209 (lv_at hl 8 rfl) ?_
      refine lv_iload hx hb d_Mo_readPart_211 (lv_at hl 0 rfl) ?_
      refine lv_iadd hx hb d_Mo_readPart_213 ?_
      obtain ⟨r214, wpl_214, hc214, hf⟩ := bd2_some hf
      refine s_Vi (As := [.int (3 : Int32), .int (x10 + (x6 - wcn))]) (rest := []) (wr := [(wi, .inl (cI, 8000, .inl wif)), (wh, .inl (cI, 8000, .inl whf)), (wb, .inl (cI, 16000, .inl wbf)), (wc, .inl (cI, 8000, .inl wcf)), (wl, .inl (cJ, 4, .inr (.inl wlf)))]) (ws' := wd_Mo_readPart w wi wh wb wc wl wo wd wm wp cB cI cJ win won whn wpl_214 wdn wfo wmn wpn wbn wcn wat wnu wif whf wbf wcf wlf) C.call (c_Mo_fault l dC dI cB cI cJ w wi wo wh wd wm wp wb wc wl  win won whn wpl wdn wfo wmn wpn wbn wcn wat wnu (3 : Int32) (x10 + (x6 - wcn)) hc214) (cwV 2 hts (gd_V w_468 w_469 w_470 w_365 w_471) rfl rfl rfl ⟨rfl, hd_Mo_fault⟩ ⟨Nat.le_of_ble_eq_true rfl, Nat.le_of_ble_eq_true rfl⟩) rfl hl.1 rfl (Nat.le_of_ble_eq_true rfl) d_Mo_readPart_214 ⟨Nat.le_of_ble_eq_true rfl, Nat.le_of_ble_eq_true rfl⟩ hZ hK hP hD hS hA 7 0 rfl rfl [0] [1, 2, 3, 4, 5] [5, 0, 1, 2, 3, 4] rfl rfl rfl rfl (by decide) rfl rfl (fun H locs hP hD hS => ?_)
      cases hf
      exact s_iret hx hb hr hlocks hP hK hD hS d_Mo_readPart_217
noncomputable def j_Mo_readPart_29 (N : Nat) (x3 : Int32) (x4 : Int32) (x5 : Int32) (x6 : Int32) (x7 : Int32) (t0 : Int64) (win : Int32) (whn : Int32) (wpl : Int32) (wbn : Int32) (wcn : Int32) (wat : Int32) (wnu : Int32) (wif : Nat → Int32) (whf : Nat → Int32) (wbf : Nat → Int32) (wcf : Nat → Int32) (wlf : Nat → Int64)  : Option (Int32 × Int32 × Int32 × Int32 × Int32 × Int32 × (Nat → Int32) × (Nat → Int32) × (Nat → Int64)) :=
  (if (lg_cmp t0 (x4.toInt64)) ≤ 0 then (if (lg_cmp t0 ((win - (wat + (4 : Int32))).toInt64)) ≤ 0 then (if (x3 &&& (16 : Int32)) = 0 then (j_Mo_readPart_178 N x3 x5 x6 x7 t0 (wat + (4 : Int32)) ((wat + (4 : Int32)) + (t0.toInt32)) whn wpl wbn wcn ((wat + (4 : Int32)) + (t0.toInt32)) wnu wif whf wbf wcf wlf ) else bd1 (f_Mo_has (4 : Int32) win ((wat + (4 : Int32)) + (t0.toInt32))) (fun r116 => (if r116 = 0 then bd2 (f_Mo_fault (1 : Int32) win) (fun r128 wpl_128 => (some (r128, wpl_128, wbn, wcn, ((wat + (4 : Int32)) + (t0.toInt32)), wnu, wbf, wcf, wlf) : Option (Int32 × Int32 × Int32 × Int32 × Int32 × Int32 × (Nat → Int32) × (Nat → Int32) × (Nat → Int64)))) else bd1 (f_Mo_numberAt N ((wat + (4 : Int32)) + (t0.toInt32)) (4 : Int32) wif) (fun r138 => bd2 (f_Mo_sumOf N 8000 (wat + (4 : Int32)) ((wat + (4 : Int32)) + (t0.toInt32)) wlf wif) (fun r150 wlf_150 => (if (lg_cmp r138 r150) = 0 then (j_Mo_readPart_178 N x3 x5 x6 x7 t0 (wat + (4 : Int32)) ((wat + (4 : Int32)) + (t0.toInt32)) whn wpl wbn wcn (((wat + (4 : Int32)) + (t0.toInt32)) + (4 : Int32)) wnu wif whf wbf wcf wlf_150 ) else bd2 (f_Mo_fault (8 : Int32) ((wat + (4 : Int32)) + (t0.toInt32))) (fun r164 wpl_164 => (some (r164, wpl_164, wbn, wcn, ((wat + (4 : Int32)) + (t0.toInt32)), wnu, wbf, wcf, wlf_150) : Option (Int32 × Int32 × Int32 × Int32 × Int32 × Int32 × (Nat → Int32) × (Nat → Int32) × (Nat → Int64)))))))))) else bd2 (f_Mo_fault (1 : Int32) win) (fun r89 wpl_89 => (some (r89, wpl_89, wbn, wcn, (wat + (4 : Int32)), wnu, wbf, wcf, wlf) : Option (Int32 × Int32 × Int32 × Int32 × Int32 × Int32 × (Nat → Int32) × (Nat → Int32) × (Nat → Int64))))) else bd2 (f_Mo_fault (7 : Int32) wat) (fun r47 wpl_47 => (some (r47, wpl_47, wbn, wcn, wat, wnu, wbf, wcf, wlf) : Option (Int32 × Int32 × Int32 × Int32 × Int32 × Int32 × (Nat → Int32) × (Nat → Int32) × (Nat → Int64)))))
set_option maxHeartbeats 4000000 in
set_option maxRecDepth 100000 in
theorem k_Mo_readPart_29 {r_z : Int32} {wpl_z : Int32} {wbn_z : Int32} {wcn_z : Int32} {wat_z : Int32} {wnu_z : Int32} {wbf_z : Nat → Int32} {wcf_z : Nat → Int32} {wlf_z : Nat → Int64} (C : Fx p s m args meth c cd_Mo_readPart 17 R_Mo lw_g (some .int)) (hK : va_K (dC, dI) vwCl [(cB, .byte), (cI, .int), (cJ, .long)] s) (hA : ∀ q, s.heap.size ≤ q → A q) (x3 : Int32) (x4 : Int32) (x5 : Int32) (x6 : Int32) (x7 : Int32) (t0 : Int64) (win : Int32) (won : Int32) (whn : Int32) (wpl : Int32) (wdn : Int32) (wfo : Int32) (wmn : Int32) (wpn : Int32) (wbn : Int32) (wcn : Int32) (wat : Int32) (wnu : Int32) (wif : Nat → Int32) (whf : Nat → Int32) (wbf : Nat → Int32) (wcf : Nat → Int32) (wlf : Nat → Int64)  (hf : j_Mo_readPart_29 N x3 x4 x5 x6 x7 t0 win whn wpl wbn wcn wat wnu wif whf wbf wcf wlf  = some (r_z, wpl_z, wbn_z, wcn_z, wat_z, wnu_z, wbf_z, wcf_z, wlf_z)) (hP : va_P (dC, dI) vwCl (wd_Mo_readPart w wi wh wb wc wl wo wd wm wp cB cI cJ win won whn wpl wdn wfo wmn wpn wbn wcn wat wnu wif whf wbf wcf wlf) H) (hD : va_D A (wd_Mo_readPart w wi wh wb wc wl wo wd wm wp cB cI cJ win won whn wpl wdn wfo wmn wpn wbn wcn wat wnu wif whf wbf wcf wlf)) (hS : va_S A s.heap H locs) (hl : lv_has ls 17 [(0, .ref w), (3, .int x3), (4, .int x4), (5, .int x5), (6, .int x6), (7, .int x7)]) : W p l e rm_Mo_readPart s m args below meth c H locs 0 0 (MQ below (sQi (dC, dI) vwCl [(cB, .byte), (cI, .int), (cJ, .long)] A r_z (wd_Mo_readPart w wi wh wb wc wl wo wd wm wp cB cI cJ win won whn wpl_z wdn wfo wmn wpn wbn_z wcn_z wat_z wnu_z wif whf wbf_z wcf_z wlf_z)) args s 0 0 A) (F0 m 29 ls [.long t0]) := by
  obtain ⟨hx, hb, hml, hown, hts, hr, hlocks, hZ⟩ := id C
  unfold j_Mo_readPart_29 at hf
  refine lv_lstore (lv' := [(8, .long t0), (0, .ref w), (3, .int x3), (4, .int x4), (5, .int x5), (6, .int x6), (7, .int x7)]) hx hb d_Mo_readPart_29 hl (by decide) rfl (fun ls hl => ?_)
  refine lv_lload hx hb d_Mo_readPart_31 (lv_at hl 0 rfl) ?_
  refine lv_iload hx hb d_Mo_readPart_33 (lv_at hl 3 rfl) ?_
  refine lv_i2l (v := (x4.toInt64)) hx hb d_Mo_readPart_35 rfl ?_
  refine W.lcmp hx hb d_Mo_readPart_36 ?_
  refine lv_if_le (tgt := 51) hx hb d_Mo_readPart_37 (by decide) (fun c_37 => ?_) (fun c_37 => ?_)
  · have hf := br_pos c_37 hf
    refine lv_aload_n hx hb d_Mo_readPart_51 rfl (lv_at hl 1 rfl) ?_
    refine lv_dup hx hb d_Mo_readPart_52 rfl ?_
    refine va_get (D := (dC, dI)) (ci := 7) (v := .int wat) (C := R_Mo) (T := T_Mo) (N := 21) hx hb hts w_359 hown hK hP 0 rfl rfl 19 (by decide) (hts _ w_368) (fun _ h9 => h9) rfl d_Mo_readPart_53 ?_
    refine lv_iconst (v := 4) hx hb d_Mo_readPart_56 (by decide) ?_
    refine lv_iadd hx hb d_Mo_readPart_57 ?_
    refine va_put (D := (dC, dI)) (ci := 7) (v := .int (wat + (4 : Int32))) (ty := .int) (C := R_Mo) (T := T_Mo) (N := 21) hx hb hts w_359 ty_Mo ty_Mo_ok nm_Mo hown hK hP hD hS 0 rfl rfl 19 (by decide) (hts _ w_368) (fun _ h9 => h9) rfl (by decide +kernel) rfl rfl (Nat.le_of_ble_eq_true rfl) d_Mo_readPart_58 (fun H locs hP hD hS => ?_)
    have hP : va_P (dC, dI) vwCl (wd_Mo_readPart w wi wh wb wc wl wo wd wm wp cB cI cJ win won whn wpl wdn wfo wmn wpn wbn wcn (wat + (4 : Int32)) wnu wif whf wbf wcf wlf) H := hP
    have hD : va_D A (wd_Mo_readPart w wi wh wb wc wl wo wd wm wp cB cI cJ win won whn wpl wdn wfo wmn wpn wbn wcn (wat + (4 : Int32)) wnu wif whf wbf wcf wlf) := hD
    refine lv_aload_n hx hb d_Mo_readPart_61 rfl (lv_at hl 1 rfl) ?_
    refine va_get (D := (dC, dI)) (ci := 7) (v := .int (wat + (4 : Int32))) (C := R_Mo) (T := T_Mo) (N := 21) hx hb hts w_359 hown hK hP 0 rfl rfl 19 (by decide) (hts _ w_368) (fun _ h9 => h9) rfl d_Mo_readPart_62 ?_
    refine lv_istore (lv' := [(10, .int (wat + (4 : Int32))), (8, .long t0), (0, .ref w), (3, .int x3), (4, .int x4), (5, .int x5), (6, .int x6), (7, .int x7)]) hx hb d_Mo_readPart_65 hl (by decide) rfl (fun ls hl => ?_)
    refine lv_lload hx hb d_Mo_readPart_67 (lv_at hl 1 rfl) ?_
    refine lv_aload_n hx hb d_Mo_readPart_69 rfl (lv_at hl 2 rfl) ?_
    refine va_get (D := (dC, dI)) (ci := 7) (v := .int win) (C := R_Mo) (T := T_Mo) (N := 21) hx hb hts w_359 hown hK hP 0 rfl rfl 3 (by decide) (hts _ w_370) (fun _ h9 => h9) rfl d_Mo_readPart_70 ?_
    refine lv_aload_n hx hb d_Mo_readPart_73 rfl (lv_at hl 2 rfl) ?_
    refine va_get (D := (dC, dI)) (ci := 7) (v := .int (wat + (4 : Int32))) (C := R_Mo) (T := T_Mo) (N := 21) hx hb hts w_359 hown hK hP 0 rfl rfl 19 (by decide) (hts _ w_368) (fun _ h9 => h9) rfl d_Mo_readPart_74 ?_
    refine lv_isub hx hb d_Mo_readPart_77 ?_
    refine lv_i2l (v := ((win - (wat + (4 : Int32))).toInt64)) hx hb d_Mo_readPart_78 rfl ?_
    refine W.lcmp hx hb d_Mo_readPart_79 ?_
    refine lv_if_le (tgt := 93) hx hb d_Mo_readPart_80 (by decide) (fun c_80 => ?_) (fun c_80 => ?_)
    · have hf := br_pos c_80 hf
      refine lv_iload hx hb d_Mo_readPart_93 (lv_at hl 0 rfl) ?_
      refine lv_lload hx hb d_Mo_readPart_95 (lv_at hl 1 rfl) ?_
      refine lv_l2i (v := (t0.toInt32)) hx hb d_Mo_readPart_97 rfl ?_
      refine lv_iadd hx hb d_Mo_readPart_98 ?_
      refine lv_istore (lv' := [(11, .int ((wat + (4 : Int32)) + (t0.toInt32))), (10, .int (wat + (4 : Int32))), (8, .long t0), (0, .ref w), (3, .int x3), (4, .int x4), (5, .int x5), (6, .int x6), (7, .int x7)]) hx hb d_Mo_readPart_99 hl (by decide) rfl (fun ls hl => ?_)
      refine lv_aload_n hx hb d_Mo_readPart_101 rfl (lv_at hl 3 rfl) ?_
      refine lv_iload hx hb d_Mo_readPart_102 (lv_at hl 0 rfl) ?_
      refine va_put (D := (dC, dI)) (ci := 7) (v := .int ((wat + (4 : Int32)) + (t0.toInt32))) (ty := .int) (C := R_Mo) (T := T_Mo) (N := 21) hx hb hts w_359 ty_Mo ty_Mo_ok nm_Mo hown hK hP hD hS 0 rfl rfl 19 (by decide) (hts _ w_368) (fun _ h9 => h9) rfl (by decide +kernel) rfl rfl (Nat.le_of_ble_eq_true rfl) d_Mo_readPart_104 (fun H locs hP hD hS => ?_)
      have hP : va_P (dC, dI) vwCl (wd_Mo_readPart w wi wh wb wc wl wo wd wm wp cB cI cJ win won whn wpl wdn wfo wmn wpn wbn wcn ((wat + (4 : Int32)) + (t0.toInt32)) wnu wif whf wbf wcf wlf) H := hP
      have hD : va_D A (wd_Mo_readPart w wi wh wb wc wl wo wd wm wp cB cI cJ win won whn wpl wdn wfo wmn wpn wbn wcn ((wat + (4 : Int32)) + (t0.toInt32)) wnu wif whf wbf wcf wlf) := hD
      refine lv_iload_n hx hb d_Mo_readPart_107 rfl (lv_at hl 4 rfl) ?_
      refine lv_bipush (v := 16) hx hb d_Mo_readPart_108 (by decide) ?_
      refine lv_iand hx hb d_Mo_readPart_110 ?_
      refine lv_if_eq (tgt := 178) hx hb d_Mo_readPart_111 (by decide) (fun c_111 => ?_) (fun c_111 => ?_)
      · have hf := br_pos c_111 hf
        exact k_Mo_readPart_178 C hK hA x3 x5 x6 x7 t0 (wat + (4 : Int32)) ((wat + (4 : Int32)) + (t0.toInt32)) win won whn wpl wdn wfo wmn wpn wbn wcn ((wat + (4 : Int32)) + (t0.toInt32)) wnu wif whf wbf wcf wlf  hf hP hD hS (lv_sub hl [3, 4, 6, 7, 8, 2, 1, 0] rfl)
      · have hf := br_neg c_111 hf
        refine lv_aload_n hx hb d_Mo_readPart_114 rfl (lv_at hl 3 rfl) ?_
        refine lv_iconst (v := 4) hx hb d_Mo_readPart_115 (by decide) ?_
        obtain ⟨r116, hc116, hf⟩ := bd1_some hf
        refine s_Vi (As := [.int (4 : Int32)]) (rest := []) (wr := [(wi, .inl (cI, 8000, .inl wif)), (wh, .inl (cI, 8000, .inl whf)), (wb, .inl (cI, 16000, .inl wbf)), (wc, .inl (cI, 8000, .inl wcf)), (wl, .inl (cJ, 4, .inr (.inl wlf)))]) (ws' := wd_Mo_readPart w wi wh wb wc wl wo wd wm wp cB cI cJ win won whn wpl wdn wfo wmn wpn wbn wcn ((wat + (4 : Int32)) + (t0.toInt32)) wnu wif whf wbf wcf wlf) C.call (c_Mo_has l dC dI cB cI cJ w wi wo wh wd wm wp wb wc wl  win won whn wpl wdn wfo wmn wpn wbn wcn ((wat + (4 : Int32)) + (t0.toInt32)) wnu (4 : Int32) hc116) (cwV 1 hts (gd_V w_472 w_473 w_474 w_365 w_475) rfl rfl rfl ⟨rfl, hd_Mo_has⟩ ⟨Nat.le_of_ble_eq_true rfl, Nat.le_of_ble_eq_true rfl⟩) rfl hl.1 rfl (Nat.le_of_ble_eq_true rfl) d_Mo_readPart_116 ⟨Nat.le_of_ble_eq_true rfl, Nat.le_of_ble_eq_true rfl⟩ hZ hK hP hD hS hA 7 0 rfl rfl [0] [1, 2, 3, 4, 5] [5, 0, 1, 2, 3, 4] rfl rfl rfl rfl (by decide) rfl rfl (fun H locs hP hD hS => ?_)
        refine lv_if_ne (tgt := 132) hx hb d_Mo_readPart_119 (by decide) (fun c_119 => ?_) (fun c_119 => ?_)
        · have hf := br_neg c_119 hf
          refine lv_aload_n hx hb d_Mo_readPart_132 rfl (lv_at hl 3 rfl) ?_
          refine lv_aload_n hx hb d_Mo_readPart_133 rfl (lv_at hl 3 rfl) ?_
          refine va_get (D := (dC, dI)) (ci := 7) (v := .int ((wat + (4 : Int32)) + (t0.toInt32))) (C := R_Mo) (T := T_Mo) (N := 21) hx hb hts w_359 hown hK hP 0 rfl rfl 19 (by decide) (hts _ w_368) (fun _ h9 => h9) rfl d_Mo_readPart_134 ?_
          refine lv_iconst (v := 4) hx hb d_Mo_readPart_137 (by decide) ?_
          obtain ⟨r138, hc138, hf⟩ := bd1_some hf
          refine s_Vl (As := [.int ((wat + (4 : Int32)) + (t0.toInt32)), .int (4 : Int32)]) (rest := []) (wr := [(wh, .inl (cI, 8000, .inl whf)), (wb, .inl (cI, 16000, .inl wbf)), (wc, .inl (cI, 8000, .inl wcf)), (wl, .inl (cJ, 4, .inr (.inl wlf)))]) (ws' := wd_Mo_readPart w wi wh wb wc wl wo wd wm wp cB cI cJ win won whn wpl wdn wfo wmn wpn wbn wcn ((wat + (4 : Int32)) + (t0.toInt32)) wnu wif whf wbf wcf wlf) C.call (c_Mo_numberAt l dC dI cB cI cJ w wi wo wh wd wm wp wb wc wl  win won whn wpl wdn wfo wmn wpn wbn wcn ((wat + (4 : Int32)) + (t0.toInt32)) wnu wif ((wat + (4 : Int32)) + (t0.toInt32)) (4 : Int32) hc138) (cwV 2 hts (gd_V w_476 w_477 w_478 w_365 w_479) rfl rfl rfl ⟨rfl, hd_Mo_numberAt⟩ ⟨Nat.le_of_ble_eq_true rfl, Nat.le_of_ble_eq_true rfl⟩) rfl hl.1 rfl (Nat.le_of_ble_eq_true rfl) d_Mo_readPart_138 ⟨Nat.le_of_ble_eq_true rfl, Nat.le_of_ble_eq_true rfl⟩ hZ hK hP hD hS hA 7 0 rfl rfl [0, 1] [2, 3, 4, 5] [4, 5, 0, 1, 2, 3] rfl rfl rfl rfl (by decide) rfl rfl (fun H locs hP hD hS => ?_)
          refine lv_aload_n hx hb d_Mo_readPart_141 rfl (lv_at hl 3 rfl) ?_
          refine lv_aload_n hx hb d_Mo_readPart_142 rfl (lv_at hl 3 rfl) ?_
          refine va_get (D := (dC, dI)) (ci := 7) (v := .ref wi) (C := R_Mo) (T := T_Mo) (N := 21) hx hb hts w_359 hown hK hP 0 rfl rfl 0 (by decide) (hts _ w_369) (fun _ h9 => h9) rfl d_Mo_readPart_143 ?_
          refine lv_iload hx hb d_Mo_readPart_146 (lv_at hl 1 rfl) ?_
          refine lv_iload hx hb d_Mo_readPart_148 (lv_at hl 0 rfl) ?_
          obtain ⟨r150, wlf_150, hc150, hf⟩ := bd2_some hf
          refine s_Vl (As := [.ref wi, .int (wat + (4 : Int32)), .int ((wat + (4 : Int32)) + (t0.toInt32))]) (rest := [.long r138]) (wr := [(wh, .inl (cI, 8000, .inl whf)), (wb, .inl (cI, 16000, .inl wbf)), (wc, .inl (cI, 8000, .inl wcf))]) (ws' := wd_Mo_readPart w wi wh wb wc wl wo wd wm wp cB cI cJ win won whn wpl wdn wfo wmn wpn wbn wcn ((wat + (4 : Int32)) + (t0.toInt32)) wnu wif whf wbf wcf wlf_150) C.call (c_Mo_sumOf l dC dI cB cI cJ w wl wi wi wo wh wd wm wp wb wc 8000 win won whn wpl wdn wfo wmn wpn wbn wcn ((wat + (4 : Int32)) + (t0.toInt32)) wnu wlf wif (wat + (4 : Int32)) ((wat + (4 : Int32)) + (t0.toInt32)) hc150) (cwV 3 hts (gd_V w_449 w_450 w_451 w_365 w_452) rfl rfl rfl ⟨rfl, hd_Mo_sumOf⟩ ⟨Nat.le_of_ble_eq_true rfl, Nat.le_of_ble_eq_true rfl⟩) rfl hl.1 rfl (Nat.le_of_ble_eq_true rfl) d_Mo_readPart_150 ⟨Nat.le_of_ble_eq_true rfl, Nat.le_of_ble_eq_true rfl⟩ hZ hK hP hD hS hA 7 0 rfl rfl [0, 5, 1] [2, 3, 4] [3, 5, 0, 1, 2, 4] rfl rfl rfl rfl (by decide) rfl rfl (fun H locs hP hD hS => ?_)
          refine W.lcmp hx hb d_Mo_readPart_153 ?_
          refine lv_if_eq (tgt := 168) hx hb d_Mo_readPart_154 (by decide) (fun c_154 => ?_) (fun c_154 => ?_)
          · have hf := br_pos c_154 hf
            refine lv_aload_n hx hb d_Mo_readPart_168 rfl (lv_at hl 3 rfl) ?_
            refine lv_dup hx hb d_Mo_readPart_169 rfl ?_
            refine va_get (D := (dC, dI)) (ci := 7) (v := .int ((wat + (4 : Int32)) + (t0.toInt32))) (C := R_Mo) (T := T_Mo) (N := 21) hx hb hts w_359 hown hK hP 0 rfl rfl 19 (by decide) (hts _ w_368) (fun _ h9 => h9) rfl d_Mo_readPart_170 ?_
            refine lv_iconst (v := 4) hx hb d_Mo_readPart_173 (by decide) ?_
            refine lv_iadd hx hb d_Mo_readPart_174 ?_
            refine va_put (D := (dC, dI)) (ci := 7) (v := .int (((wat + (4 : Int32)) + (t0.toInt32)) + (4 : Int32))) (ty := .int) (C := R_Mo) (T := T_Mo) (N := 21) hx hb hts w_359 ty_Mo ty_Mo_ok nm_Mo hown hK hP hD hS 0 rfl rfl 19 (by decide) (hts _ w_368) (fun _ h9 => h9) rfl (by decide +kernel) rfl rfl (Nat.le_of_ble_eq_true rfl) d_Mo_readPart_175 (fun H locs hP hD hS => ?_)
            have hP : va_P (dC, dI) vwCl (wd_Mo_readPart w wi wh wb wc wl wo wd wm wp cB cI cJ win won whn wpl wdn wfo wmn wpn wbn wcn (((wat + (4 : Int32)) + (t0.toInt32)) + (4 : Int32)) wnu wif whf wbf wcf wlf_150) H := hP
            have hD : va_D A (wd_Mo_readPart w wi wh wb wc wl wo wd wm wp cB cI cJ win won whn wpl wdn wfo wmn wpn wbn wcn (((wat + (4 : Int32)) + (t0.toInt32)) + (4 : Int32)) wnu wif whf wbf wcf wlf_150) := hD
            exact k_Mo_readPart_178 C hK hA x3 x5 x6 x7 t0 (wat + (4 : Int32)) ((wat + (4 : Int32)) + (t0.toInt32)) win won whn wpl wdn wfo wmn wpn wbn wcn (((wat + (4 : Int32)) + (t0.toInt32)) + (4 : Int32)) wnu wif whf wbf wcf wlf_150  hf hP hD hS (lv_sub hl [3, 4, 6, 7, 8, 2, 1, 0] rfl)
          · have hf := br_neg c_154 hf
            refine lv_aload_n hx hb d_Mo_readPart_157 rfl (lv_at hl 3 rfl) ?_
            refine lv_bipush (v := 8) hx hb d_Mo_readPart_158 (by decide) ?_
            refine lv_aload_n hx hb d_Mo_readPart_160 rfl (lv_at hl 3 rfl) ?_
            refine va_get (D := (dC, dI)) (ci := 7) (v := .int ((wat + (4 : Int32)) + (t0.toInt32))) (C := R_Mo) (T := T_Mo) (N := 21) hx hb hts w_359 hown hK hP 0 rfl rfl 19 (by decide) (hts _ w_368) (fun _ h9 => h9) rfl d_Mo_readPart_161 ?_
            obtain ⟨r164, wpl_164, hc164, hf⟩ := bd2_some hf
            refine s_Vi (As := [.int (8 : Int32), .int ((wat + (4 : Int32)) + (t0.toInt32))]) (rest := []) (wr := [(wi, .inl (cI, 8000, .inl wif)), (wh, .inl (cI, 8000, .inl whf)), (wb, .inl (cI, 16000, .inl wbf)), (wc, .inl (cI, 8000, .inl wcf)), (wl, .inl (cJ, 4, .inr (.inl wlf_150)))]) (ws' := wd_Mo_readPart w wi wh wb wc wl wo wd wm wp cB cI cJ win won whn wpl_164 wdn wfo wmn wpn wbn wcn ((wat + (4 : Int32)) + (t0.toInt32)) wnu wif whf wbf wcf wlf_150) C.call (c_Mo_fault l dC dI cB cI cJ w wi wo wh wd wm wp wb wc wl  win won whn wpl wdn wfo wmn wpn wbn wcn ((wat + (4 : Int32)) + (t0.toInt32)) wnu (8 : Int32) ((wat + (4 : Int32)) + (t0.toInt32)) hc164) (cwV 2 hts (gd_V w_468 w_469 w_470 w_365 w_471) rfl rfl rfl ⟨rfl, hd_Mo_fault⟩ ⟨Nat.le_of_ble_eq_true rfl, Nat.le_of_ble_eq_true rfl⟩) rfl hl.1 rfl (Nat.le_of_ble_eq_true rfl) d_Mo_readPart_164 ⟨Nat.le_of_ble_eq_true rfl, Nat.le_of_ble_eq_true rfl⟩ hZ hK hP hD hS hA 7 0 rfl rfl [0] [1, 2, 3, 4, 5] [5, 0, 1, 2, 3, 4] rfl rfl rfl rfl (by decide) rfl rfl (fun H locs hP hD hS => ?_)
            cases hf
            exact s_iret hx hb hr hlocks hP hK hD hS d_Mo_readPart_167
        · have hf := br_pos c_119 hf
          refine lv_aload_n hx hb d_Mo_readPart_122 rfl (lv_at hl 3 rfl) ?_
          refine lv_iconst (v := 1) hx hb d_Mo_readPart_123 (by decide) ?_
          refine lv_aload_n hx hb d_Mo_readPart_124 rfl (lv_at hl 3 rfl) ?_
          refine va_get (D := (dC, dI)) (ci := 7) (v := .int win) (C := R_Mo) (T := T_Mo) (N := 21) hx hb hts w_359 hown hK hP 0 rfl rfl 3 (by decide) (hts _ w_370) (fun _ h9 => h9) rfl d_Mo_readPart_125 ?_
          obtain ⟨r128, wpl_128, hc128, hf⟩ := bd2_some hf
          refine s_Vi (As := [.int (1 : Int32), .int win]) (rest := []) (wr := [(wi, .inl (cI, 8000, .inl wif)), (wh, .inl (cI, 8000, .inl whf)), (wb, .inl (cI, 16000, .inl wbf)), (wc, .inl (cI, 8000, .inl wcf)), (wl, .inl (cJ, 4, .inr (.inl wlf)))]) (ws' := wd_Mo_readPart w wi wh wb wc wl wo wd wm wp cB cI cJ win won whn wpl_128 wdn wfo wmn wpn wbn wcn ((wat + (4 : Int32)) + (t0.toInt32)) wnu wif whf wbf wcf wlf) C.call (c_Mo_fault l dC dI cB cI cJ w wi wo wh wd wm wp wb wc wl  win won whn wpl wdn wfo wmn wpn wbn wcn ((wat + (4 : Int32)) + (t0.toInt32)) wnu (1 : Int32) win hc128) (cwV 2 hts (gd_V w_468 w_469 w_470 w_365 w_471) rfl rfl rfl ⟨rfl, hd_Mo_fault⟩ ⟨Nat.le_of_ble_eq_true rfl, Nat.le_of_ble_eq_true rfl⟩) rfl hl.1 rfl (Nat.le_of_ble_eq_true rfl) d_Mo_readPart_128 ⟨Nat.le_of_ble_eq_true rfl, Nat.le_of_ble_eq_true rfl⟩ hZ hK hP hD hS hA 7 0 rfl rfl [0] [1, 2, 3, 4, 5] [5, 0, 1, 2, 3, 4] rfl rfl rfl rfl (by decide) rfl rfl (fun H locs hP hD hS => ?_)
          cases hf
          exact s_iret hx hb hr hlocks hP hK hD hS d_Mo_readPart_131
    · have hf := br_neg c_80 hf
      refine lv_aload_n hx hb d_Mo_readPart_83 rfl (lv_at hl 2 rfl) ?_
      refine lv_iconst (v := 1) hx hb d_Mo_readPart_84 (by decide) ?_
      refine lv_aload_n hx hb d_Mo_readPart_85 rfl (lv_at hl 2 rfl) ?_
      refine va_get (D := (dC, dI)) (ci := 7) (v := .int win) (C := R_Mo) (T := T_Mo) (N := 21) hx hb hts w_359 hown hK hP 0 rfl rfl 3 (by decide) (hts _ w_370) (fun _ h9 => h9) rfl d_Mo_readPart_86 ?_
      obtain ⟨r89, wpl_89, hc89, hf⟩ := bd2_some hf
      refine s_Vi (As := [.int (1 : Int32), .int win]) (rest := []) (wr := [(wi, .inl (cI, 8000, .inl wif)), (wh, .inl (cI, 8000, .inl whf)), (wb, .inl (cI, 16000, .inl wbf)), (wc, .inl (cI, 8000, .inl wcf)), (wl, .inl (cJ, 4, .inr (.inl wlf)))]) (ws' := wd_Mo_readPart w wi wh wb wc wl wo wd wm wp cB cI cJ win won whn wpl_89 wdn wfo wmn wpn wbn wcn (wat + (4 : Int32)) wnu wif whf wbf wcf wlf) C.call (c_Mo_fault l dC dI cB cI cJ w wi wo wh wd wm wp wb wc wl  win won whn wpl wdn wfo wmn wpn wbn wcn (wat + (4 : Int32)) wnu (1 : Int32) win hc89) (cwV 2 hts (gd_V w_468 w_469 w_470 w_365 w_471) rfl rfl rfl ⟨rfl, hd_Mo_fault⟩ ⟨Nat.le_of_ble_eq_true rfl, Nat.le_of_ble_eq_true rfl⟩) rfl hl.1 rfl (Nat.le_of_ble_eq_true rfl) d_Mo_readPart_89 ⟨Nat.le_of_ble_eq_true rfl, Nat.le_of_ble_eq_true rfl⟩ hZ hK hP hD hS hA 7 0 rfl rfl [0] [1, 2, 3, 4, 5] [5, 0, 1, 2, 3, 4] rfl rfl rfl rfl (by decide) rfl rfl (fun H locs hP hD hS => ?_)
      cases hf
      exact s_iret hx hb hr hlocks hP hK hD hS d_Mo_readPart_92
  · have hf := br_neg c_37 hf
    refine lv_aload_n hx hb d_Mo_readPart_40 rfl (lv_at hl 1 rfl) ?_
    refine lv_bipush (v := 7) hx hb d_Mo_readPart_41 (by decide) ?_
    refine lv_aload_n hx hb d_Mo_readPart_43 rfl (lv_at hl 1 rfl) ?_
    refine va_get (D := (dC, dI)) (ci := 7) (v := .int wat) (C := R_Mo) (T := T_Mo) (N := 21) hx hb hts w_359 hown hK hP 0 rfl rfl 19 (by decide) (hts _ w_368) (fun _ h9 => h9) rfl d_Mo_readPart_44 ?_
    obtain ⟨r47, wpl_47, hc47, hf⟩ := bd2_some hf
    refine s_Vi (As := [.int (7 : Int32), .int wat]) (rest := []) (wr := [(wi, .inl (cI, 8000, .inl wif)), (wh, .inl (cI, 8000, .inl whf)), (wb, .inl (cI, 16000, .inl wbf)), (wc, .inl (cI, 8000, .inl wcf)), (wl, .inl (cJ, 4, .inr (.inl wlf)))]) (ws' := wd_Mo_readPart w wi wh wb wc wl wo wd wm wp cB cI cJ win won whn wpl_47 wdn wfo wmn wpn wbn wcn wat wnu wif whf wbf wcf wlf) C.call (c_Mo_fault l dC dI cB cI cJ w wi wo wh wd wm wp wb wc wl  win won whn wpl wdn wfo wmn wpn wbn wcn wat wnu (7 : Int32) wat hc47) (cwV 2 hts (gd_V w_468 w_469 w_470 w_365 w_471) rfl rfl rfl ⟨rfl, hd_Mo_fault⟩ ⟨Nat.le_of_ble_eq_true rfl, Nat.le_of_ble_eq_true rfl⟩) rfl hl.1 rfl (Nat.le_of_ble_eq_true rfl) d_Mo_readPart_47 ⟨Nat.le_of_ble_eq_true rfl, Nat.le_of_ble_eq_true rfl⟩ hZ hK hP hD hS hA 7 0 rfl rfl [0] [1, 2, 3, 4, 5] [5, 0, 1, 2, 3, 4] rfl rfl rfl rfl (by decide) rfl rfl (fun H locs hP hD hS => ?_)
    cases hf
    exact s_iret hx hb hr hlocks hP hK hD hS d_Mo_readPart_50
noncomputable def j_Mo_readPart_13 (N : Nat) (x1 : Int64) (x3 : Int32) (x4 : Int32) (x5 : Int32) (x6 : Int32) (t0 : Int32) (win : Int32) (whn : Int32) (wpl : Int32) (wbn : Int32) (wcn : Int32) (wat : Int32) (wnu : Int32) (wif : Nat → Int32) (whf : Nat → Int32) (wbf : Nat → Int32) (wcf : Nat → Int32) (wlf : Nat → Int64)  : Option (Int32 × Int32 × Int32 × Int32 × Int32 × Int32 × (Nat → Int32) × (Nat → Int32) × (Nat → Int64)) :=
  (if t0 = 0 then (j_Mo_readPart_29 N x3 x4 x5 x6 t0 x1 win whn wpl wbn wcn wat wnu wif whf wbf wcf wlf ) else (j_Mo_readPart_29 N x3 x4 x5 x6 t0 (x1 - (2147483648 : Int64)) win whn wpl wbn wcn wat wnu wif whf wbf wcf wlf ))
set_option maxHeartbeats 4000000 in
set_option maxRecDepth 100000 in
theorem k_Mo_readPart_13 {r_z : Int32} {wpl_z : Int32} {wbn_z : Int32} {wcn_z : Int32} {wat_z : Int32} {wnu_z : Int32} {wbf_z : Nat → Int32} {wcf_z : Nat → Int32} {wlf_z : Nat → Int64} (C : Fx p s m args meth c cd_Mo_readPart 17 R_Mo lw_g (some .int)) (hK : va_K (dC, dI) vwCl [(cB, .byte), (cI, .int), (cJ, .long)] s) (hA : ∀ q, s.heap.size ≤ q → A q) (x1 : Int64) (x3 : Int32) (x4 : Int32) (x5 : Int32) (x6 : Int32) (t0 : Int32) (win : Int32) (won : Int32) (whn : Int32) (wpl : Int32) (wdn : Int32) (wfo : Int32) (wmn : Int32) (wpn : Int32) (wbn : Int32) (wcn : Int32) (wat : Int32) (wnu : Int32) (wif : Nat → Int32) (whf : Nat → Int32) (wbf : Nat → Int32) (wcf : Nat → Int32) (wlf : Nat → Int64)  (hf : j_Mo_readPart_13 N x1 x3 x4 x5 x6 t0 win whn wpl wbn wcn wat wnu wif whf wbf wcf wlf  = some (r_z, wpl_z, wbn_z, wcn_z, wat_z, wnu_z, wbf_z, wcf_z, wlf_z)) (hP : va_P (dC, dI) vwCl (wd_Mo_readPart w wi wh wb wc wl wo wd wm wp cB cI cJ win won whn wpl wdn wfo wmn wpn wbn wcn wat wnu wif whf wbf wcf wlf) H) (hD : va_D A (wd_Mo_readPart w wi wh wb wc wl wo wd wm wp cB cI cJ win won whn wpl wdn wfo wmn wpn wbn wcn wat wnu wif whf wbf wcf wlf)) (hS : va_S A s.heap H locs) (hl : lv_has ls 17 [(0, .ref w), (1, .long x1), (3, .int x3), (4, .int x4), (5, .int x5), (6, .int x6)]) : W p l e rm_Mo_readPart s m args below meth c H locs 0 0 (MQ below (sQi (dC, dI) vwCl [(cB, .byte), (cI, .int), (cJ, .long)] A r_z (wd_Mo_readPart w wi wh wb wc wl wo wd wm wp cB cI cJ win won whn wpl_z wdn wfo wmn wpn wbn_z wcn_z wat_z wnu_z wif whf wbf_z wcf_z wlf_z)) args s 0 0 A) (F0 m 13 ls [.int t0]) := by
  obtain ⟨hx, hb, hml, hown, hts, hr, hlocks, hZ⟩ := id C
  unfold j_Mo_readPart_13 at hf
  refine lv_istore (lv' := [(7, .int t0), (0, .ref w), (1, .long x1), (3, .int x3), (4, .int x4), (5, .int x5), (6, .int x6)]) hx hb d_Mo_readPart_13 hl (by decide) rfl (fun ls hl => ?_)
  refine lv_iload hx hb d_Mo_readPart_15 (lv_at hl 0 rfl) ?_
  refine lv_if_eq (tgt := 28) hx hb d_Mo_readPart_17 (by decide) (fun c_17 => ?_) (fun c_17 => ?_)
  · have hf := br_pos c_17 hf
    refine lv_lload_n hx hb d_Mo_readPart_28 rfl (lv_at hl 2 rfl) ?_
    exact k_Mo_readPart_29 C hK hA x3 x4 x5 x6 t0 x1 win won whn wpl wdn wfo wmn wpn wbn wcn wat wnu wif whf wbf wcf wlf  hf hP hD hS (lv_sub hl [1, 3, 4, 5, 6, 0] rfl)
  · have hf := br_neg c_17 hf
    refine lv_lload_n hx hb d_Mo_readPart_20 rfl (lv_at hl 2 rfl) ?_
    refine lv_ldc2 (v := 2147483648) hx hb hown (hts _ w_453) d_Mo_readPart_21 ?_
    refine lv_lsub hx hb d_Mo_readPart_24 ?_
    refine lv_goto (tgt := 29) hx hb d_Mo_readPart_25 (by decide) ?_
    exact k_Mo_readPart_29 C hK hA x3 x4 x5 x6 t0 (x1 - (2147483648 : Int64)) win won whn wpl wdn wfo wmn wpn wbn wcn wat wnu wif whf wbf wcf wlf  hf hP hD hS (lv_sub hl [1, 3, 4, 5, 6, 0] rfl)
noncomputable def j_Mo_readPart_0 (N : Nat) (x1 : Int64) (x3 : Int32) (x4 : Int32) (x5 : Int32) (x6 : Int32) (win : Int32) (whn : Int32) (wpl : Int32) (wbn : Int32) (wcn : Int32) (wat : Int32) (wnu : Int32) (wif : Nat → Int32) (whf : Nat → Int32) (wbf : Nat → Int32) (wcf : Nat → Int32) (wlf : Nat → Int64)  : Option (Int32 × Int32 × Int32 × Int32 × Int32 × Int32 × (Nat → Int32) × (Nat → Int32) × (Nat → Int64)) :=
  (if (lg_cmp x1 (2147483648 : Int64)) < 0 then (j_Mo_readPart_13 N x1 x3 x4 x5 x6 (0 : Int32) win whn wpl wbn wcn wat wnu wif whf wbf wcf wlf ) else (j_Mo_readPart_13 N x1 x3 x4 x5 x6 (1 : Int32) win whn wpl wbn wcn wat wnu wif whf wbf wcf wlf ))
set_option maxHeartbeats 4000000 in
set_option maxRecDepth 100000 in
theorem k_Mo_readPart_0 {r_z : Int32} {wpl_z : Int32} {wbn_z : Int32} {wcn_z : Int32} {wat_z : Int32} {wnu_z : Int32} {wbf_z : Nat → Int32} {wcf_z : Nat → Int32} {wlf_z : Nat → Int64} (C : Fx p s m args meth c cd_Mo_readPart 17 R_Mo lw_g (some .int)) (hK : va_K (dC, dI) vwCl [(cB, .byte), (cI, .int), (cJ, .long)] s) (hA : ∀ q, s.heap.size ≤ q → A q) (x1 : Int64) (x3 : Int32) (x4 : Int32) (x5 : Int32) (x6 : Int32) (win : Int32) (won : Int32) (whn : Int32) (wpl : Int32) (wdn : Int32) (wfo : Int32) (wmn : Int32) (wpn : Int32) (wbn : Int32) (wcn : Int32) (wat : Int32) (wnu : Int32) (wif : Nat → Int32) (whf : Nat → Int32) (wbf : Nat → Int32) (wcf : Nat → Int32) (wlf : Nat → Int64)  (hf : j_Mo_readPart_0 N x1 x3 x4 x5 x6 win whn wpl wbn wcn wat wnu wif whf wbf wcf wlf  = some (r_z, wpl_z, wbn_z, wcn_z, wat_z, wnu_z, wbf_z, wcf_z, wlf_z)) (hP : va_P (dC, dI) vwCl (wd_Mo_readPart w wi wh wb wc wl wo wd wm wp cB cI cJ win won whn wpl wdn wfo wmn wpn wbn wcn wat wnu wif whf wbf wcf wlf) H) (hD : va_D A (wd_Mo_readPart w wi wh wb wc wl wo wd wm wp cB cI cJ win won whn wpl wdn wfo wmn wpn wbn wcn wat wnu wif whf wbf wcf wlf)) (hS : va_S A s.heap H locs) (hl : lv_has ls 17 [(0, .ref w), (1, .long x1), (3, .int x3), (4, .int x4), (5, .int x5), (6, .int x6)]) : W p l e rm_Mo_readPart s m args below meth c H locs 0 0 (MQ below (sQi (dC, dI) vwCl [(cB, .byte), (cI, .int), (cJ, .long)] A r_z (wd_Mo_readPart w wi wh wb wc wl wo wd wm wp cB cI cJ win won whn wpl_z wdn wfo wmn wpn wbn_z wcn_z wat_z wnu_z wif whf wbf_z wcf_z wlf_z)) args s 0 0 A) (F0 m 0 ls []) := by
  obtain ⟨hx, hb, hml, hown, hts, hr, hlocks, hZ⟩ := id C
  unfold j_Mo_readPart_0 at hf
  refine lv_lload_n hx hb d_Mo_readPart_0 rfl (lv_at hl 1 rfl) ?_
  refine lv_ldc2 (v := 2147483648) hx hb hown (hts _ w_453) d_Mo_readPart_1 ?_
  refine W.lcmp hx hb d_Mo_readPart_4 ?_
  refine lv_if_lt (tgt := 12) hx hb d_Mo_readPart_5 (by decide) (fun c_5 => ?_) (fun c_5 => ?_)
  · have hf := br_pos c_5 hf
    refine lv_iconst (v := 0) hx hb d_Mo_readPart_12 (by decide) ?_
    exact k_Mo_readPart_13 C hK hA x1 x3 x4 x5 x6 (0 : Int32) win won whn wpl wdn wfo wmn wpn wbn wcn wat wnu wif whf wbf wcf wlf  hf hP hD hS (lv_sub hl [0, 1, 2, 3, 4, 5] rfl)
  · have hf := br_neg c_5 hf
    refine lv_iconst (v := 1) hx hb d_Mo_readPart_8 (by decide) ?_
    refine lv_goto (tgt := 13) hx hb d_Mo_readPart_9 (by decide) ?_
    exact k_Mo_readPart_13 C hK hA x1 x3 x4 x5 x6 (1 : Int32) win won whn wpl wdn wfo wmn wpn wbn wcn wat wnu wif whf wbf wcf wlf  hf hP hD hS (lv_sub hl [0, 1, 2, 3, 4, 5] rfl)
end
noncomputable abbrev f_Mo_readPart (N : Nat) (x1 : Int64) (x3 : Int32) (x4 : Int32) (x5 : Int32) (x6 : Int32) (win : Int32) (whn : Int32) (wpl : Int32) (wbn : Int32) (wcn : Int32) (wat : Int32) (wnu : Int32) (wif : Nat → Int32) (whf : Nat → Int32) (wbf : Nat → Int32) (wcf : Nat → Int32) (wlf : Nat → Int64) : Option (Int32 × Int32 × Int32 × Int32 × Int32 × Int32 × (Nat → Int32) × (Nat → Int32) × (Nat → Int64)) := j_Mo_readPart_0 N x1 x3 x4 x5 x6 win whn wpl wbn wcn wat wnu wif whf wbf wcf wlf
set_option maxRecDepth 100000 in
theorem c_Mo_readPart {N : Nat} (l : Launch) (dC : Nat → ClassId) (dI : Nat → Nat → Nat) (cB cI cJ : ClassId) (w wi wh wb wc wl wo wd wm wp : Nat) (win : Int32) (won : Int32) (whn : Int32) (wpl : Int32) (wdn : Int32) (wfo : Int32) (wmn : Int32) (wpn : Int32) (wbn : Int32) (wcn : Int32) (wat : Int32) (wnu : Int32) (wif : Nat → Int32) (whf : Nat → Int32) (wbf : Nat → Int32) (wcf : Nat → Int32) (wlf : Nat → Int64) (x1 : Int64) (x3 : Int32) (x4 : Int32) (x5 : Int32) (x6 : Int32) {r_z : Int32} {wpl_z : Int32} {wbn_z : Int32} {wcn_z : Int32} {wat_z : Int32} {wnu_z : Int32} {wbf_z : Nat → Int32} {wcf_z : Nat → Int32} {wlf_z : Nat → Int64} (hf : f_Mo_readPart N x1 x3 x4 x5 x6 win whn wpl wbn wcn wat wnu wif whf wbf wcf wlf = some (r_z, wpl_z, wbn_z, wcn_z, wat_z, wnu_z, wbf_z, wcf_z, wlf_z)) : MetI l y_Mo_readPart ws_Mo_readPart rm_Mo_readPart (dC, dI) vwCl [(cB, .byte), (cI, .int), (cJ, .long)] [.ref w, .long x1, .int x3, .int x4, .int x5, .int x6] (wd_Mo_readPart w wi wh wb wc wl wo wd wm wp cB cI cJ win won whn wpl wdn wfo wmn wpn wbn wcn wat wnu wif whf wbf wcf wlf) r_z (wd_Mo_readPart w wi wh wb wc wl wo wd wm wp cB cI cJ win won whn wpl_z wdn wfo wmn wpn wbn_z wcn_z wat_z wnu_z wif whf wbf_z wcf_z wlf_z) 0 0 :=
  s_ofi (bytes := cd_Mo_readPart) (maxL := 17) (ret := (some .int)) (by decide) rfl (Nat.le_of_ble_eq_true rfl) (fun p e s m below meth c A ls C hK hA hP hD hS hl => k_Mo_readPart_0 C hK hA x1 x3 x4 x5 x6 win won whn wpl wdn wfo wmn wpn wbn wcn wat wnu wif whf wbf wcf wlf hf hP hD hS (lv_sub hl [0, 1, 2, 3, 4, 5] rfl))
