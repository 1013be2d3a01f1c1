abbrev wd_Mo_has (w wi wo wh wd wm wp wb wc wl : Nat) (cB cI cJ : ClassId) (win : Int32) (won : Int32) (whn : Int32) (wpl : Int32) (wdn : Int32) (wfo : Int32) (wmn : Int32) (wpn : Int32) (wbn : Int32) (wcn : Int32) (wat : Int32) (wnu : Int32) : va_W := [(w, .inr (7, [.ref wi, .ref wo, .ref wh, .int win, .int won, .int whn, .int wpl, .ref wd, .int wdn, .int wfo, .ref wm, .int wmn, .ref wp, .int wpn, .ref wb, .int wbn, .ref wc, .int wcn, .ref wl, .int wat, .int wnu]))]
abbrev rm_Mo_has : Room := { frames := 0, cells := 0, slots := 0, locals := 0 }
section
variable {p : Program} {l : Launch} {e : Env} {s : State} {m : MethodId} {args : Array Value} {below : List Frame} {meth : Method} {c : Code} {dC : Nat → ClassId} {dI : Nat → Nat → Nat} {A : Nat → Prop} {cB cI cJ : ClassId} {H : Heap} {locs : List Loc} {ls : Array Slot} {N : Nat} {w wi wo wh wd wm wp wb wc wl : Nat}
noncomputable def j_Mo_has_0 (x1 : Int32) (win : Int32) (wat : Int32)  : Option (Int32) :=
  (if win < (wat + x1) then (some (0 : Int32) : Option (Int32)) else (some (1 : Int32) : Option (Int32)))
set_option maxHeartbeats 4000000 in
set_option maxRecDepth 100000 in
theorem k_Mo_has_0 {r_z : Int32} (C : Fx p s m args meth c cd_Mo_has 2 R_Mo lw_g (some .boolean)) (hK : va_K (dC, dI) vwCl [(cB, .byte), (cI, .int), (cJ, .long)] s) (hA : ∀ q, s.heap.size ≤ q → A q) (x1 : Int32) (win : Int32) (won : Int32) (whn : Int32) (wpl : Int32) (wdn : Int32) (wfo : Int32) (wmn : Int32) (wpn : Int32) (wbn : Int32) (wcn : Int32) (wat : Int32) (wnu : Int32)  (hf : j_Mo_has_0 x1 win wat  = some r_z) (hP : va_P (dC, dI) vwCl (wd_Mo_has w wi wo wh wd wm wp wb wc wl cB cI cJ win won whn wpl wdn wfo wmn wpn wbn wcn wat wnu) H) (hD : va_D A (wd_Mo_has w wi wo wh wd wm wp wb wc wl cB cI cJ win won whn wpl wdn wfo wmn wpn wbn wcn wat wnu)) (hS : va_S A s.heap H locs) (hl : lv_has ls 2 [(0, .ref w), (1, .int x1)]) : W p l e rm_Mo_has s m args below meth c H locs 0 0 (MQ below (sQi (dC, dI) vwCl [(cB, .byte), (cI, .int), (cJ, .long)] A r_z (wd_Mo_has w wi wo wh wd wm wp wb wc wl cB cI cJ win won whn wpl wdn wfo wmn wpn wbn wcn wat wnu)) args s 0 0 A) (F0 m 0 ls []) := by
  obtain ⟨hx, hb, hml, hown, hts, hr, hlocks, hZ⟩ := id C
  unfold j_Mo_has_0 at hf
  refine lv_aload_n hx hb d_Mo_has_0 rfl (lv_at hl 0 rfl) ?_
  refine va_get (D := (dC, dI)) (ci := 7) (v := .int wat) (C := R_Mo) (T := T_Mo) (N := 21) hx hb hts w_351 hown hK hP 0 rfl rfl 19 (by decide) (hts _ w_360) (fun _ h9 => h9) rfl d_Mo_has_1 ?_
  refine lv_iload_n hx hb d_Mo_has_4 rfl (lv_at hl 1 rfl) ?_
  refine lv_iadd hx hb d_Mo_has_5 ?_
  refine lv_aload_n hx hb d_Mo_has_6 rfl (lv_at hl 0 rfl) ?_
  refine va_get (D := (dC, dI)) (ci := 7) (v := .int win) (C := R_Mo) (T := T_Mo) (N := 21) hx hb hts w_351 hown hK hP 0 rfl rfl 3 (by decide) (hts _ w_362) (fun _ h9 => h9) rfl d_Mo_has_7 ?_
  refine lv_icmp_gt (tgt := 17) hx hb d_Mo_has_10 (by decide) (fun c_10 => ?_) (fun c_10 => ?_)
  · have hf := br_pos c_10 hf
    refine lv_iconst (v := 0) hx hb d_Mo_has_17 (by decide) ?_
    cases hf
    exact s_zret hx hb hr (by decide) hlocks hP hK hD hS d_Mo_has_18
  · have hf := br_neg c_10 hf
    refine lv_iconst (v := 1) hx hb d_Mo_has_13 (by decide) ?_
    refine lv_goto (tgt := 18) hx hb d_Mo_has_14 (by decide) ?_
    cases hf
    exact s_zret hx hb hr (by decide) hlocks hP hK hD hS d_Mo_has_18
end
noncomputable abbrev f_Mo_has (x1 : Int32) (win : Int32) (wat : Int32) : Option (Int32) := j_Mo_has_0 x1 win wat
set_option maxRecDepth 100000 in
theorem c_Mo_has (l : Launch) (dC : Nat → ClassId) (dI : Nat → Nat → Nat) (cB cI cJ : ClassId) (w wi wo wh wd wm wp wb wc wl : Nat) (win : Int32) (won : Int32) (whn : Int32) (wpl : Int32) (wdn : Int32) (wfo : Int32) (wmn : Int32) (wpn : Int32) (wbn : Int32) (wcn : Int32) (wat : Int32) (wnu : Int32) (x1 : Int32) {r_z : Int32} (hf : f_Mo_has x1 win wat = some r_z) : MetI l y_Mo_has ws_Mo_has rm_Mo_has (dC, dI) vwCl [(cB, .byte), (cI, .int), (cJ, .long)] [.ref w, .int x1] (wd_Mo_has w wi wo wh wd wm wp wb wc wl cB cI cJ win won whn wpl wdn wfo wmn wpn wbn wcn wat wnu) r_z (wd_Mo_has w wi wo wh wd wm wp wb wc wl cB cI cJ win won whn wpl wdn wfo wmn wpn wbn wcn wat wnu) 0 0 :=
  s_ofi (bytes := cd_Mo_has) (maxL := 2) (ret := (some .boolean)) (by decide) rfl (Nat.le_of_ble_eq_true rfl) (fun p e s m below meth c A ls C hK hA hP hD hS hl => k_Mo_has_0 C hK hA x1 win won whn wpl wdn wfo wmn wpn wbn wcn wat wnu hf hP hD hS (lv_sub hl [0, 1] rfl))

abbrev wd_Mo_numberAt (w wi wo wh wd wm wp wb wc wl : Nat) (cB cI cJ : ClassId) (win : Int32) (won : Int32) (whn : Int32) (wpl : Int32) (wdn : Int32) (wfo : Int32) (wmn : Int32) (wpn : Int32) (wbn : Int32) (wcn : Int32) (wat : Int32) (wnu : Int32) (wif : Nat → Int32) : va_W := [(w, .inr (7, [.ref wi, .ref wo, .ref wh, .int win, .int won, .int whn, .int wpl, .ref wd, .int wdn, .int wfo, .ref wm, .int wmn, .ref wp, .int wpn, .ref wb, .int wbn, .ref wc, .int wcn, .ref wl, .int wat, .int wnu])), (wi, .inl (cI, 8000, .inl wif))]
abbrev rm_Mo_numberAt : Room := { frames := 0, cells := 0, slots := 0, locals := 0 }
section
variable {p : Program} {l : Launch} {e : Env} {s : State} {m : MethodId} {args : Array Value} {below : List Frame} {meth : Method} {c : Code} {dC : Nat → ClassId} {dI : Nat → Nat → Nat} {A : Nat → Prop} {cB cI cJ : ClassId} {H : Heap} {locs : List Loc} {ls : Array Slot} {N : Nat} {w wi wo wh wd wm wp wb wc wl : Nat}
noncomputable def b_Mo_numberAt_7 (x1 : Int32) (wif : Nat → Int32)  (kh7 : Int64 → Int32 → Option (Int64)) (x3 : Int64) (x5 : Int32) : Option (Int64) :=
  (if x5 < 0 then (some x3 : Option (Int64)) else as_ (vp_in (x1 + x5) 8000) ((kh7 ((sl64 x3 (8 : Int32)) ||| ((wif (x1 + x5).toNatClampNeg).toInt64)) (x5 + (-1)))))
set_option maxHeartbeats 4000000 in
set_option maxRecDepth 100000 in
theorem k_Mo_numberAt_7 {r_z : Int64} (C : Fx p s m args meth c cd_Mo_numberAt 6 R_Mo lw_g (some .long)) (hK : va_K (dC, dI) vwCl [(cB, .byte), (cI, .int), (cJ, .long)] s) (hA : ∀ q, s.heap.size ≤ q → A q) (x1 : Int32) (win : Int32) (won : Int32) (whn : Int32) (wpl : Int32) (wdn : Int32) (wfo : Int32) (wmn : Int32) (wpn : Int32) (wbn : Int32) (wcn : Int32) (wat : Int32) (wnu : Int32) (wif : Nat → Int32)  : ∀ (n : Nat) (x3 : Int64) (x5 : Int32), loop2 (b_Mo_numberAt_7 x1 wif ) n x3 x5 = some r_z → ∀ (H : Heap) (locs : List Loc), va_P (dC, dI) vwCl (wd_Mo_numberAt w wi wo wh wd wm wp wb wc wl cB cI cJ win won whn wpl wdn wfo wmn wpn wbn wcn wat wnu wif) H → va_D A (wd_Mo_numberAt w wi wo wh wd wm wp wb wc wl cB cI cJ win won whn wpl wdn wfo wmn wpn wbn wcn wat wnu wif) → va_S A s.heap H locs → ∀ (ls : Array Slot), lv_has ls 6 [(0, .ref w), (1, .int x1), (3, .long x3), (5, .int x5)] → W p l e rm_Mo_numberAt s m args below meth c H locs 0 0 (MQ below (sQl (dC, dI) vwCl [(cB, .byte), (cI, .int), (cJ, .long)] A r_z (wd_Mo_numberAt w wi wo wh wd wm wp wb wc wl cB cI cJ win won whn wpl wdn wfo wmn wpn wbn wcn wat wnu wif)) args s 0 0 A) (F0 m 7 ls []) := by
  obtain ⟨hx, hb, hml, hown, hts, hr, hlocks, hZ⟩ := id C
  intro n
  induction n with
  | zero => intro x3 x5 hf; cases hf
  | succ n ih7 =>
    intro x3 x5 hf H locs hP hD hS ls hl
    have hf : b_Mo_numberAt_7 x1 wif  (loop2 (b_Mo_numberAt_7 x1 wif ) n) x3 x5 = some r_z := hf
    generalize loop2 (b_Mo_numberAt_7 x1 wif ) n = kh7 at hf ih7
    unfold b_Mo_numberAt_7 at hf
    refine lv_iload hx hb d_Mo_numberAt_7 (lv_at hl 3 rfl) ?_
    refine lv_if_lt (tgt := 34) hx hb d_Mo_numberAt_9 (by decide) (fun c_9 => ?_) (fun c_9 => ?_)
    · have hf := br_pos c_9 hf
      refine lv_lload_n hx hb d_Mo_numberAt_34 rfl (lv_at hl 2 rfl) ?_
      cases hf
      exact s_lret hx hb hr hlocks hP hK hD hS d_Mo_numberAt_35
    · have hf := br_neg c_9 hf
      refine lv_lload_n hx hb d_Mo_numberAt_12 rfl (lv_at hl 2 rfl) ?_
      refine lv_bipush (v := 8) hx hb d_Mo_numberAt_13 (by decide) ?_
      refine lv_lshl (v := (sl64 x3 (8 : Int32))) hx hb d_Mo_numberAt_15 rfl ?_
      refine lv_aload_n hx hb d_Mo_numberAt_16 rfl (lv_at hl 0 rfl) ?_
      refine va_get (D := (dC, dI)) (ci := 7) (v := .ref wi) (C := R_Mo) (T := T_Mo) (N := 21) hx hb hts w_351 hown hK hP 0 rfl rfl 0 (by decide) (hts _ w_361) (fun _ h9 => h9) rfl d_Mo_numberAt_17 ?_
      refine lv_iload_n hx hb d_Mo_numberAt_20 rfl (lv_at hl 1 rfl) ?_
      refine lv_iload hx hb d_Mo_numberAt_21 (lv_at hl 3 rfl) ?_
      refine lv_iadd hx hb d_Mo_numberAt_23 ?_
      obtain ⟨h_in, hf⟩ := as_some hf
      refine va_iald hx hb hK hP 1 1 rfl rfl h_in d_Mo_numberAt_24 ?_
      refine lv_i2l (v := ((wif (x1 + x5).toNatClampNeg).toInt64)) hx hb d_Mo_numberAt_25 rfl ?_
      refine lv_lor hx hb d_Mo_numberAt_26 ?_
      refine lv_lstore_n (lv' := [(3, .long ((sl64 x3 (8 : Int32)) ||| ((wif (x1 + x5).toNatClampNeg).toInt64))), (0, .ref w), (1, .int x1), (5, .int x5)]) hx hb d_Mo_numberAt_27 rfl hl (by decide) rfl (fun ls hl => ?_)
      refine lv_iinc (v := (x5 + (-1))) (lv' := [(5, .int (x5 + (-1))), (3, .long ((sl64 x3 (8 : Int32)) ||| ((wif (x1 + x5).toNatClampNeg).toInt64))), (0, .ref w), (1, .int x1)]) hx hb d_Mo_numberAt_28 hl (k := 3) rfl (congrArg (fun z => x5 + z) (by decide)) (by decide) rfl (fun ls hl => ?_)
      refine lv_goto (tgt := 7) hx hb d_Mo_numberAt_31 (by decide) ?_
      exact ih7 ((sl64 x3 (8 : Int32)) ||| ((wif (x1 + x5).toNatClampNeg).toInt64)) (x5 + (-1)) hf _ _ hP hD hS _ (lv_sub hl [2, 3, 1, 0] rfl)
noncomputable def j_Mo_numberAt_0 (N : Nat) (x1 : Int32) (x2 : Int32) (wif : Nat → Int32)  : Option (Int64) :=
  (loop2 (b_Mo_numberAt_7 x1 wif ) N (0 : Int64) (x2 - (1 : Int32)))
set_option maxHeartbeats 4000000 in
set_option maxRecDepth 100000 in
theorem k_Mo_numberAt_0 {r_z : Int64} (C : Fx p s m args meth c cd_Mo_numberAt 6 R_Mo lw_g (some .long)) (hK : va_K (dC, dI) vwCl [(cB, .byte), (cI, .int), (cJ, .long)] s) (hA : ∀ q, s.heap.size ≤ q → A q) (x1 : Int32) (x2 : Int32) (win : Int32) (won : Int32) (whn : Int32) (wpl : Int32) (wdn : Int32) (wfo : Int32) (wmn : Int32) (wpn : Int32) (wbn : Int32) (wcn : Int32) (wat : Int32) (wnu : Int32) (wif : Nat → Int32)  (hf : j_Mo_numberAt_0 N x1 x2 wif  = some r_z) (hP : va_P (dC, dI) vwCl (wd_Mo_numberAt w wi wo wh wd wm wp wb wc wl cB cI cJ win won whn wpl wdn wfo wmn wpn wbn wcn wat wnu wif) H) (hD : va_D A (wd_Mo_numberAt w wi wo wh wd wm wp wb wc wl cB cI cJ win won whn wpl wdn wfo wmn wpn wbn wcn wat wnu wif)) (hS : va_S A s.heap H locs) (hl : lv_has ls 6 [(0, .ref w), (1, .int x1), (2, .int x2)]) : W p l e rm_Mo_numberAt s m args below meth c H locs 0 0 (MQ below (sQl (dC, dI) vwCl [(cB, .byte), (cI, .int), (cJ, .long)] A r_z (wd_Mo_numberAt w wi wo wh wd wm wp wb wc wl cB cI cJ win won whn wpl wdn wfo wmn wpn wbn wcn wat wnu wif)) args s 0 0 A) (F0 m 0 ls []) := by
  obtain ⟨hx, hb, hml, hown, hts, hr, hlocks, hZ⟩ := id C
  unfold j_Mo_numberAt_0 at hf
  refine lv_lconst (v := 0) hx hb d_Mo_numberAt_0 (by decide) ?_
  refine lv_lstore_n (lv' := [(3, .long (0 : Int64)), (0, .ref w), (1, .int x1), (2, .int x2)]) hx hb d_Mo_numberAt_1 rfl hl (by decide) rfl (fun ls hl => ?_)
  refine lv_iload_n hx hb d_Mo_numberAt_2 rfl (lv_at hl 3 rfl) ?_
  refine lv_iconst (v := 1) hx hb d_Mo_numberAt_3 (by decide) ?_
  refine lv_isub hx hb d_Mo_numberAt_4 ?_
  refine lv_istore (lv' := [(5, .int (x2 - (1 : Int32))), (3, .long (0 : Int64)), (0, .ref w), (1, .int x1), (2, .int x2)]) hx hb d_Mo_numberAt_5 hl (by decide) rfl (fun ls hl => ?_)
  exact k_Mo_numberAt_7 C hK hA x1 win won whn wpl wdn wfo wmn wpn wbn wcn wat wnu wif  N (0 : Int64) (x2 - (1 : Int32)) hf _ _ hP hD hS _ (lv_sub hl [2, 3, 1, 0] rfl)
end
noncomputable abbrev f_Mo_numberAt (N : Nat) (x1 : Int32) (x2 : Int32) (wif : Nat → Int32) : Option (Int64) := j_Mo_numberAt_0 N x1 x2 wif
set_option maxRecDepth 100000 in
theorem c_Mo_numberAt {N : Nat} (l : Launch) (dC : Nat → ClassId) (dI : Nat → Nat → Nat) (cB cI cJ : ClassId) (w wi wo wh wd wm wp wb wc wl : Nat) (win : Int32) (won : Int32) (whn : Int32) (wpl : Int32) (wdn : Int32) (wfo : Int32) (wmn : Int32) (wpn : Int32) (wbn : Int32) (wcn : Int32) (wat : Int32) (wnu : Int32) (wif : Nat → Int32) (x1 : Int32) (x2 : Int32) {r_z : Int64} (hf : f_Mo_numberAt N x1 x2 wif = some r_z) : MetL l y_Mo_numberAt ws_Mo_numberAt rm_Mo_numberAt (dC, dI) vwCl [(cB, .byte), (cI, .int), (cJ, .long)] [.ref w, .int x1, .int x2] (wd_Mo_numberAt w wi wo wh wd wm wp wb wc wl cB cI cJ win won whn wpl wdn wfo wmn wpn wbn wcn wat wnu wif) r_z (wd_Mo_numberAt w wi wo wh wd wm wp wb wc wl cB cI cJ win won whn wpl wdn wfo wmn wpn wbn wcn wat wnu wif) 0 0 :=
  s_ofl (bytes := cd_Mo_numberAt) (maxL := 6) (ret := (some .long)) (by decide) rfl (Nat.le_of_ble_eq_true rfl) (fun p e s m below meth c A ls C hK hA hP hD hS hl => k_Mo_numberAt_0 C hK hA x1 x2 win won whn wpl wdn wfo wmn wpn wbn wcn wat wnu wif hf hP hD hS (lv_sub hl [0, 1, 2] rfl))

abbrev wd_Mo_place (w wi wo wh wd wm wp wb wc wl : Nat) (cB cI cJ : ClassId) (win : Int32) (won : Int32) (whn : Int32) (wpl : Int32) (wdn : Int32) (wfo : Int32) (wmn : Int32) (wpn : Int32) (wbn : Int32) (wcn : Int32) (wat : Int32) (wnu : Int32) : va_W := [(w, .inr (7, [.ref wi, .ref wo, .ref wh, .int win, .int won, .int whn, .int wpl, .ref wd, .int wdn, .int wfo, .ref wm, .int wmn, .ref wp, .int wpn, .ref wb, .int wbn, .ref wc, .int wcn, .ref wl, .int wat, .int wnu]))]
abbrev rm_Mo_place : Room := { frames := 0, cells := 0, slots := 0, locals := 0 }
section
variable {p : Program} {l : Launch} {e : Env} {s : State} {m : MethodId} {args : Array Value} {below : List Frame} {meth : Method} {c : Code} {dC : Nat → ClassId} {dI : Nat → Nat → Nat} {A : Nat → Prop} {cB cI cJ : ClassId} {H : Heap} {locs : List Loc} {ls : Array Slot} {N : Nat} {w wi wo wh wd wm wp wb wc wl : Nat}
noncomputable def j_Mo_place_0 (wpl : Int32)  : Option (Int32) :=
  (some wpl : Option (Int32))
set_option maxHeartbeats 4000000 in
set_option maxRecDepth 100000 in
theorem k_Mo_place_0 {r_z : Int32} (C : Fx p s m args meth c cd_Mo_place 1 R_Mo lw_g (some .int)) (hK : va_K (dC, dI) vwCl [(cB, .byte), (cI, .int), (cJ, .long)] s) (hA : ∀ q, s.heap.size ≤ q → A q) (win : Int32) (won : Int32) (whn : Int32) (wpl : Int32) (wdn : Int32) (wfo : Int32) (wmn : Int32) (wpn : Int32) (wbn : Int32) (wcn : Int32) (wat : Int32) (wnu : Int32)  (hf : j_Mo_place_0 wpl  = some r_z) (hP : va_P (dC, dI) vwCl (wd_Mo_place w wi wo wh wd wm wp wb wc wl cB cI cJ win won whn wpl wdn wfo wmn wpn wbn wcn wat wnu) H) (hD : va_D A (wd_Mo_place w wi wo wh wd wm wp wb wc wl cB cI cJ win won whn wpl wdn wfo wmn wpn wbn wcn wat wnu)) (hS : va_S A s.heap H locs) (hl : lv_has ls 1 [(0, .ref w)]) : W p l e rm_Mo_place s m args below meth c H locs 0 0 (MQ below (sQi (dC, dI) vwCl [(cB, .byte), (cI, .int), (cJ, .long)] A r_z (wd_Mo_place w wi wo wh wd wm wp wb wc wl cB cI cJ win won whn wpl wdn wfo wmn wpn wbn wcn wat wnu)) args s 0 0 A) (F0 m 0 ls []) := by
  obtain ⟨hx, hb, hml, hown, hts, hr, hlocks, hZ⟩ := id C
  unfold j_Mo_place_0 at hf
  refine lv_aload_n hx hb d_Mo_place_0 rfl (lv_at hl 0 rfl) ?_
  refine va_get (D := (dC, dI)) (ci := 7) (v := .int wpl) (C := R_Mo) (T := T_Mo) (N := 21) hx hb hts w_351 hown hK hP 0 rfl rfl 6 (by decide) (hts _ w_409) (fun _ h9 => h9) rfl d_Mo_place_1 ?_
  cases hf
  exact s_iret hx hb hr hlocks hP hK hD hS d_Mo_place_4
end
noncomputable abbrev f_Mo_place (wpl : Int32) : Option (Int32) := j_Mo_place_0 wpl
set_option maxRecDepth 100000 in
theorem c_Mo_place (l : Launch) (dC : Nat → ClassId) (dI : Nat → Nat → Nat) (cB cI cJ : ClassId) (w wi wo wh wd wm wp wb wc wl : Nat) (win : Int32) (won : Int32) (whn : Int32) (wpl : Int32) (wdn : Int32) (wfo : Int32) (wmn : Int32) (wpn : Int32) (wbn : Int32) (wcn : Int32) (wat : Int32) (wnu : Int32)  {r_z : Int32} (hf : f_Mo_place wpl = some r_z) : MetI l y_Mo_place ws_Mo_place rm_Mo_place (dC, dI) vwCl [(cB, .byte), (cI, .int), (cJ, .long)] [.ref w] (wd_Mo_place w wi wo wh wd wm wp wb wc wl cB cI cJ win won whn wpl wdn wfo wmn wpn wbn wcn wat wnu) r_z (wd_Mo_place w wi wo wh wd wm wp wb wc wl cB cI cJ win won whn wpl wdn wfo wmn wpn wbn wcn wat wnu) 0 0 :=
  s_ofi (bytes := cd_Mo_place) (maxL := 1) (ret := (some .int)) (by decide) rfl (Nat.le_of_ble_eq_true rfl) (fun p e s m below meth c A ls C hK hA hP hD hS hl => k_Mo_place_0 C hK hA win won whn wpl wdn wfo wmn wpn wbn wcn wat wnu hf hP hD hS (lv_sub hl [0] rfl))

abbrev wd_Mo_readBlock (w wi wb wo wh wd wm wp wc wl : Nat) (cB cI cJ : ClassId) (win : Int32) (won : Int32) (whn : Int32) (wpl : Int32) (wdn : Int32) (wfo : Int32) (wmn : Int32) (wpn : Int32) (wbn : Int32) (wcn : Int32) (wat : Int32) (wnu : Int32) (wif : Nat → Int32) (wbf : Nat → Int32) : va_W := [(w, .inr (7, [.ref wi, .ref wo, .ref wh, .int win, .int won, .int whn, .int wpl, .ref wd, .int wdn, .int wfo, .ref wm, .int wmn, .ref wp, .int wpn, .ref wb, .int wbn, .ref wc, .int wcn, .ref wl, .int wat, .int wnu])), (wi, .inl (cI, 8000, .inl wif)), (wb, .inl (cI, 16000, .inl wbf))]
abbrev rm_Mo_readBlock : Room := { frames := 1, cells := 0, slots := 0, locals := 23 }
section
variable {p : Program} {l : Launch} {e : Env} {s : State} {m : MethodId} {args : Array Value} {below : List Frame} {meth : Method} {c : Code} {dC : Nat → ClassId} {dI : Nat → Nat → Nat} {A : Nat → Prop} {cB cI cJ : ClassId} {H : Heap} {locs : List Loc} {ls : Array Slot} {N : Nat} {w wi wb wo wh wd wm wp wc wl : Nat}
noncomputable def j_Mo_readBlock_227 (x6 : Int32) (wbn : Int32) (wat : Int32) (wnu : Int32) (wbf : Nat → Int32)  : Option (Int32 × Int32 × Int32 × Int32 × Int32 × (Nat → Int32)) :=
  (some ((2 : Int32), x6, wbn, wat, wnu, wbf) : Option (Int32 × Int32 × Int32 × Int32 × Int32 × (Nat → Int32)))
set_option maxHeartbeats 4000000 in
set_option maxRecDepth 100000 in
theorem k_Mo_readBlock_227 {r_z : Int32} {wpl_z : Int32} {wbn_z : Int32} {wat_z : Int32} {wnu_z : Int32} {wbf_z : Nat → Int32} (C : Fx p s m args meth c cd_Mo_readBlock 9 R_Mo lw_g (some .int)) (hK : va_K (dC, dI) vwCl [(cB, .byte), (cI, .int), (cJ, .long)] s) (hA : ∀ q, s.heap.size ≤ q → A q) (x6 : Int32) (win : Int32) (won : Int32) (whn : Int32) (wpl : Int32) (wdn : Int32) (wfo : Int32) (wmn : Int32) (wpn : Int32) (wbn : Int32) (wcn : Int32) (wat : Int32) (wnu : Int32) (wif : Nat → Int32) (wbf : Nat → Int32)  (hf : j_Mo_readBlock_227 x6 wbn wat wnu wbf  = some (r_z, wpl_z, wbn_z, wat_z, wnu_z, wbf_z)) (hP : va_P (dC, dI) vwCl (wd_Mo_readBlock w wi wb wo wh wd wm wp wc wl cB cI cJ win won whn wpl wdn wfo wmn wpn wbn wcn wat wnu wif wbf) H) (hD : va_D A (wd_Mo_readBlock w wi wb wo wh wd wm wp wc wl cB cI cJ win won whn wpl wdn wfo wmn wpn wbn wcn wat wnu wif wbf)) (hS : va_S A s.heap H locs) (hl : lv_has ls 9 [(0, .ref w), (6, .int x6)]) : W p l e rm_Mo_readBlock s m args below meth c H locs 0 0 (MQ below (sQi (dC, dI) vwCl [(cB, .byte), (cI, .int), (cJ, .long)] A r_z (wd_Mo_readBlock w wi wb wo wh wd wm wp wc wl cB cI cJ win won whn wpl_z wdn wfo wmn wpn wbn_z wcn wat_z wnu_z wif wbf_z)) args s 0 0 A) (F0 m 227 ls []) := by
  obtain ⟨hx, hb, hml, hown, hts, hr, hlocks, hZ⟩ := id C
  unfold j_Mo_readBlock_227 at hf
  refine lv_aload_n hx hb d_Mo_readBlock_227 rfl (lv_at hl 0 rfl) ?_
  refine lv_iload hx hb d_Mo_readBlock_228 (lv_at hl 1 rfl) ?_
  refine va_put (D := (dC, dI)) (ci := 7) (v := .int x6) (ty := .int) (C := R_Mo) (T := T_Mo) (N := 21) hx hb hts w_351 ty_Mo ty_Mo_ok nm_Mo hown hK hP hD hS 0 rfl rfl 6 (by decide) (hts _ w_409) (fun _ h9 => h9) rfl (by decide +kernel) rfl rfl (Nat.le_of_ble_eq_true rfl) d_Mo_readBlock_230 (fun H locs hP hD hS => ?_)
  have hP : va_P (dC, dI) vwCl (wd_Mo_readBlock w wi wb wo wh wd wm wp wc wl cB cI cJ win won whn x6 wdn wfo wmn wpn wbn wcn wat wnu wif wbf) H := hP
  have hD : va_D A (wd_Mo_readBlock w wi wb wo wh wd wm wp wc wl cB cI cJ win won whn x6 wdn wfo wmn wpn wbn wcn wat wnu wif wbf) := hD
  refine lv_iconst (v := 2) hx hb d_Mo_readBlock_233 (by decide) ?_
  cases hf
  exact s_iret hx hb hr hlocks hP hK hD hS d_Mo_readBlock_234
noncomputable def b_Mo_readBlock_279 (x7 : Int32) (wpl : Int32) (wat : Int32) (wnu : Int32) (kh11 : Int32 → Int32 → Int32 → Int32 → (Nat → Int32) → Option (Int32 × Int32 × Int32 × Int32 × Int32 × (Nat → Int32))) (kh279 : Int32 → Int32 → (Nat → Int32) → Option (Int32 × Int32 × Int32 × Int32 × Int32 × (Nat → Int32))) (x8 : Int32) (wbn : Int32) (wbf : Nat → Int32) : Option (Int32 × Int32 × Int32 × Int32 × Int32 × (Nat → Int32)) :=
  (if (wnu + (4 : Int32)) ≤ x8 then (kh11 wpl wbn wat wnu wbf) else as_ (vp_in (wbn - x7) 16000) (as_ (vp_in wbn 16000) ((kh279 (x8 + 1) (wbn + (1 : Int32)) (upd wbf wbn.toNatClampNeg (wbf (wbn - x7).toNatClampNeg))))))
set_option maxHeartbeats 4000000 in
set_option maxRecDepth 100000 in
theorem k_Mo_readBlock_279 {r_z : Int32} {wpl_z : Int32} {wbn_z : Int32} {wat_z : Int32} {wnu_z : Int32} {wbf_z : Nat → Int32} (C : Fx p s m args meth c cd_Mo_readBlock 9 R_Mo lw_g (some .int)) (hK : va_K (dC, dI) vwCl [(cB, .byte), (cI, .int), (cJ, .long)] s) (hA : ∀ q, s.heap.size ≤ q → A q) (x2 : Int32) (x3 : Int32) (x4 : Int32) (x7 : Int32) (win : Int32) (won : Int32) (whn : Int32) (wpl : Int32) (wdn : Int32) (wfo : Int32) (wmn : Int32) (wpn : Int32) (wcn : Int32) (wat : Int32) (wnu : Int32) (wif : Nat → Int32) (kh11 : Int32 → Int32 → Int32 → Int32 → (Nat → Int32) → Option (Int32 × Int32 × Int32 × Int32 × Int32 × (Nat → Int32))) (ih11 : ∀ (wpl : Int32) (wbn : Int32) (wat : Int32) (wnu : Int32) (wbf : Nat → Int32), kh11 wpl wbn wat wnu wbf = some (r_z, wpl_z, wbn_z, wat_z, wnu_z, wbf_z) → ∀ (H : Heap) (locs : List Loc), va_P (dC, dI) vwCl (wd_Mo_readBlock w wi wb wo wh wd wm wp wc wl cB cI cJ win won whn wpl wdn wfo wmn wpn wbn wcn wat wnu wif wbf) H → va_D A (wd_Mo_readBlock w wi wb wo wh wd wm wp wc wl cB cI cJ win won whn wpl wdn wfo wmn wpn wbn wcn wat wnu wif wbf) → va_S A s.heap H locs → ∀ (ls : Array Slot), lv_has ls 9 [(0, .ref w), (2, .int x2), (3, .int x3), (4, .int x4)] → W p l e rm_Mo_readBlock s m args below meth c H locs 0 0 (MQ below (sQi (dC, dI) vwCl [(cB, .byte), (cI, .int), (cJ, .long)] A r_z (wd_Mo_readBlock w wi wb wo wh wd wm wp wc wl cB cI cJ win won whn wpl_z wdn wfo wmn wpn wbn_z wcn wat_z wnu_z wif wbf_z)) args s 0 0 A) (F0 m 11 ls [])) : ∀ (n : Nat) (x8 : Int32) (wbn : Int32) (wbf : Nat → Int32), loop3 (b_Mo_readBlock_279 x7 wpl wat wnu kh11) n x8 wbn wbf = some (r_z, wpl_z, wbn_z, wat_z, wnu_z, wbf_z) → ∀ (H : Heap) (locs : List Loc), va_P (dC, dI) vwCl (wd_Mo_readBlock w wi wb wo wh wd wm wp wc wl cB cI cJ win won whn wpl wdn wfo wmn wpn wbn wcn wat wnu wif wbf) H → va_D A (wd_Mo_readBlock w wi wb wo wh wd wm wp wc wl cB cI cJ win won whn wpl wdn wfo wmn wpn wbn wcn wat wnu wif wbf) → va_S A s.heap H locs → ∀ (ls : Array Slot), lv_has ls 9 [(0, .ref w), (2, .int x2), (3, .int x3), (4, .int x4), (7, .int x7), (8, .int x8)] → W p l e rm_Mo_readBlock s m args below meth c H locs 0 0 (MQ below (sQi (dC, dI) vwCl [(cB, .byte), (cI, .int), (cJ, .long)] A r_z (wd_Mo_readBlock w wi wb wo wh wd wm wp wc wl cB cI cJ win won whn wpl_z wdn wfo wmn wpn wbn_z wcn wat_z wnu_z wif wbf_z)) args s 0 0 A) (F0 m 279 ls []) := by
  obtain ⟨hx, hb, hml, hown, hts, hr, hlocks, hZ⟩ := id C
  intro n
  induction n with
  | zero => intro x8 wbn wbf hf; cases hf
  | succ n ih279 =>
    intro x8 wbn wbf hf H locs hP hD hS ls hl
    have hf : b_Mo_readBlock_279 x7 wpl wat wnu kh11 (loop3 (b_Mo_readBlock_279 x7 wpl wat wnu kh11) n) x8 wbn wbf = some (r_z, wpl_z, wbn_z, wat_z, wnu_z, wbf_z) := hf
    generalize loop3 (b_Mo_readBlock_279 x7 wpl wat wnu kh11) n = kh279 at hf ih279
    unfold b_Mo_readBlock_279 at hf
    refine lv_iload hx hb d_Mo_readBlock_279 (lv_at hl 5 rfl) ?_
    refine lv_aload_n hx hb d_Mo_readBlock_281 rfl (lv_at hl 0 rfl) ?_
    refine va_get (D := (dC, dI)) (ci := 7) (v := .int wnu) (C := R_Mo) (T := T_Mo) (N := 21) hx hb hts w_351 hown hK hP 0 rfl rfl 20 (by decide) (hts _ w_359) (fun _ h9 => h9) rfl d_Mo_readBlock_282 ?_
    refine lv_iconst (v := 4) hx hb d_Mo_readBlock_285 (by decide) ?_
    refine lv_iadd hx hb d_Mo_readBlock_286 ?_
    refine lv_icmp_ge (tgt := 327) hx hb d_Mo_readBlock_287 (by decide) (fun c_287 => ?_) (fun c_287 => ?_)
    · have hf := br_pos c_287 hf
      refine lv_goto (tgt := 11) hx hb d_Mo_readBlock_327 (by decide) ?_
      exact ih11 wpl wbn wat wnu wbf hf _ _ hP hD hS _ (lv_sub hl [0, 1, 2, 3] rfl)
    · have hf := br_neg c_287 hf
      refine lv_aload_n hx hb d_Mo_readBlock_290 rfl (lv_at hl 0 rfl) ?_
      refine va_get (D := (dC, dI)) (ci := 7) (v := .ref wb) (C := R_Mo) (T := T_Mo) (N := 21) hx hb hts w_351 hown hK hP 0 rfl rfl 14 (by decide) (hts _ w_368) (fun _ h9 => h9) rfl d_Mo_readBlock_291 ?_
      refine lv_aload_n hx hb d_Mo_readBlock_294 rfl (lv_at hl 0 rfl) ?_
      refine va_get (D := (dC, dI)) (ci := 7) (v := .int wbn) (C := R_Mo) (T := T_Mo) (N := 21) hx hb hts w_351 hown hK hP 0 rfl rfl 15 (by decide) (hts _ w_367) (fun _ h9 => h9) rfl d_Mo_readBlock_295 ?_
      refine lv_aload_n hx hb d_Mo_readBlock_298 rfl (lv_at hl 0 rfl) ?_
      refine va_get (D := (dC, dI)) (ci := 7) (v := .ref wb) (C := R_Mo) (T := T_Mo) (N := 21) hx hb hts w_351 hown hK hP 0 rfl rfl 14 (by decide) (hts _ w_368) (fun _ h9 => h9) rfl d_Mo_readBlock_299 ?_
      refine lv_aload_n hx hb d_Mo_readBlock_302 rfl (lv_at hl 0 rfl) ?_
      refine va_get (D := (dC, dI)) (ci := 7) (v := .int wbn) (C := R_Mo) (T := T_Mo) (N := 21) hx hb hts w_351 hown hK hP 0 rfl rfl 15 (by decide) (hts _ w_367) (fun _ h9 => h9) rfl d_Mo_readBlock_303 ?_
      refine lv_iload hx hb d_Mo_readBlock_306 (lv_at hl 4 rfl) ?_
      refine lv_isub hx hb d_Mo_readBlock_308 ?_
      obtain ⟨h_in, hf⟩ := as_some hf
      refine va_iald hx hb hK hP 2 1 rfl rfl h_in d_Mo_readBlock_309 ?_
      obtain ⟨h_in, hf⟩ := as_some hf
      refine va_iast hx hb hK hP hD hS 2 1 rfl rfl h_in d_Mo_readBlock_310 (fun H locs hP hD hS => ?_)
      have hP : va_P (dC, dI) vwCl (wd_Mo_readBlock w wi wb wo wh wd wm wp wc wl cB cI cJ win won whn wpl wdn wfo wmn wpn wbn wcn wat wnu wif (upd wbf wbn.toNatClampNeg (wbf (wbn - x7).toNatClampNeg))) H := hP
      have hD : va_D A (wd_Mo_readBlock w wi wb wo wh wd wm wp wc wl cB cI cJ win won whn wpl wdn wfo wmn wpn wbn wcn wat wnu wif (upd wbf wbn.toNatClampNeg (wbf (wbn - x7).toNatClampNeg))) := hD
      refine lv_aload_n hx hb d_Mo_readBlock_311 rfl (lv_at hl 0 rfl) ?_
      refine lv_dup hx hb d_Mo_readBlock_312 rfl ?_
      refine va_get (D := (dC, dI)) (ci := 7) (v := .int wbn) (C := R_Mo) (T := T_Mo) (N := 21) hx hb hts w_351 hown hK hP 0 rfl rfl 15 (by decide) (hts _ w_367) (fun _ h9 => h9) rfl d_Mo_readBlock_313 ?_
      refine lv_iconst (v := 1) hx hb d_Mo_readBlock_316 (by decide) ?_
      refine lv_iadd hx hb d_Mo_readBlock_317 ?_
      refine va_put (D := (dC, dI)) (ci := 7) (v := .int (wbn + (1 : Int32))) (ty := .int) (C := R_Mo) (T := T_Mo) (N := 21) hx hb hts w_351 ty_Mo ty_Mo_ok nm_Mo hown hK hP hD hS 0 rfl rfl 15 (by decide) (hts _ w_367) (fun _ h9 => h9) rfl (by decide +kernel) rfl rfl (Nat.le_of_ble_eq_true rfl) d_Mo_readBlock_318 (fun H locs hP hD hS => ?_)
      have hP : va_P (dC, dI) vwCl (wd_Mo_readBlock w wi wb wo wh wd wm wp wc wl cB cI cJ win won whn wpl wdn wfo wmn wpn (wbn + (1 : Int32)) wcn wat wnu wif (upd wbf wbn.toNatClampNeg (wbf (wbn - x7).toNatClampNeg))) H := hP
      have hD : va_D A (wd_Mo_readBlock w wi wb wo wh wd wm wp wc wl cB cI cJ win won whn wpl wdn wfo wmn wpn (wbn + (1 : Int32)) wcn wat wnu wif (upd wbf wbn.toNatClampNeg (wbf (wbn - x7).toNatClampNeg))) := hD
      refine lv_iinc (v := (x8 + 1)) (lv' := [(8, .int (x8 + 1)), (0, .ref w), (2, .int x2), (3, .int x3), (4, .int x4), (7, .int x7)]) hx hb d_Mo_readBlock_321 hl (k := 5) rfl (congrArg (fun z => x8 + z) (by decide)) (by decide) rfl (fun ls hl => ?_)
      refine lv_goto (tgt := 279) hx hb d_Mo_readBlock_324 (by decide) ?_
      exact ih279 (x8 + 1) (wbn + (1 : Int32)) (upd wbf wbn.toNatClampNeg (wbf (wbn - x7).toNatClampNeg)) hf _ _ hP hD hS _ (lv_sub hl [1, 2, 3, 4, 5, 0] rfl)
noncomputable def b_Mo_readBlock_68 (N : Nat) (x2 : Int32) (x3 : Int32) (x4 : Int32) (x5 : Int32) (wpl : Int32) (wnu : Int32) (wif : Nat → Int32) (kh11 : Int32 → Int32 → Int32 → Int32 → (Nat → Int32) → Option (Int32 × Int32 × Int32 × Int32 × Int32 × (Nat → Int32))) (kh68 : Int32 → Int32 → Int32 → (Nat → Int32) → Option (Int32 × Int32 × Int32 × Int32 × Int32 × (Nat → Int32))) (x6 : Int32) (wbn : Int32) (wat : Int32) (wbf : Nat → Int32) : Option (Int32 × Int32 × Int32 × Int32 × Int32 × (Nat → Int32)) :=
  (if x6 ≤ 0 then (if wat = x2 then (some ((0 : Int32), wpl, wbn, wat, wnu, wbf) : Option (Int32 × Int32 × Int32 × Int32 × Int32 × (Nat → Int32))) else (if (wat + (2 : Int32)) ≤ x2 then as_ (vp_in wat 8000) (as_ (vp_in (wat + (1 : Int32)) 8000) ((if ((wif wat.toNatClampNeg) + ((256 : Int32) * (wif (wat + (1 : Int32)).toNatClampNeg))) = 0 then (j_Mo_readBlock_227 wat wbn (wat + (2 : Int32)) wnu wbf ) else (if ((wif wat.toNatClampNeg) + ((256 : Int32) * (wif (wat + (1 : Int32)).toNatClampNeg))) ≤ wbn then bd3 (f_Mo_adds N (x5 - x5 / (16 : Int32) * (16 : Int32)) x2 (wat + (2 : Int32)) wif) (fun r242 wat_242 wnu_242 => (if r242 = 0 then (some ((1 : Int32), wpl, wbn, wat_242, wnu_242, wbf) : Option (Int32 × Int32 × Int32 × Int32 × Int32 × (Nat → Int32))) else (if (wnu_242 + (4 : Int32)) ≤ (x3 - (wbn - x4)) then (loop3 (b_Mo_readBlock_279 ((wif wat.toNatClampNeg) + ((256 : Int32) * (wif (wat + (1 : Int32)).toNatClampNeg))) wpl wat_242 wnu_242 kh11) N (0 : Int32) wbn wbf) else (some ((3 : Int32), wat, wbn, wat_242, wnu_242, wbf) : Option (Int32 × Int32 × Int32 × Int32 × Int32 × (Nat → Int32)))))) else (j_Mo_readBlock_227 wat wbn (wat + (2 : Int32)) wnu wbf ))))) else (some ((1 : Int32), wpl, wbn, wat, wnu, wbf) : Option (Int32 × Int32 × Int32 × Int32 × Int32 × (Nat → Int32))))) else (if wat = x2 then (some ((1 : Int32), wpl, wbn, wat, wnu, wbf) : Option (Int32 × Int32 × Int32 × Int32 × Int32 × (Nat → Int32))) else (if (wbn - x4) = x3 then (some ((3 : Int32), wat, wbn, wat, wnu, wbf) : Option (Int32 × Int32 × Int32 × Int32 × Int32 × (Nat → Int32))) else as_ (vp_in wat 8000) (as_ (vp_in wbn 16000) ((kh68 (x6 + (-1)) (wbn + (1 : Int32)) (wat + (1 : Int32)) (upd wbf wbn.toNatClampNeg (wif wat.toNatClampNeg))))))))
set_option maxHeartbeats 4000000 in
set_option maxRecDepth 100000 in
theorem k_Mo_readBlock_68 {r_z : Int32} {wpl_z : Int32} {wbn_z : Int32} {wat_z : Int32} {wnu_z : Int32} {wbf_z : Nat → Int32} (C : Fx p s m args meth c cd_Mo_readBlock 9 R_Mo lw_g (some .int)) (hK : va_K (dC, dI) vwCl [(cB, .byte), (cI, .int), (cJ, .long)] s) (hA : ∀ q, s.heap.size ≤ q → A q) (x2 : Int32) (x3 : Int32) (x4 : Int32) (x5 : Int32) (win : Int32) (won : Int32) (whn : Int32) (wpl : Int32) (wdn : Int32) (wfo : Int32) (wmn : Int32) (wpn : Int32) (wcn : Int32) (wnu : Int32) (wif : Nat → Int32) (kh11 : Int32 → Int32 → Int32 → Int32 → (Nat → Int32) → Option (Int32 × Int32 × Int32 × Int32 × Int32 × (Nat → Int32))) (ih11 : ∀ (wpl : Int32) (wbn : Int32) (wat : Int32) (wnu : Int32) (wbf : Nat → Int32), kh11 wpl wbn wat wnu wbf = some (r_z, wpl_z, wbn_z, wat_z, wnu_z, wbf_z) → ∀ (H : Heap) (locs : List Loc), va_P (dC, dI) vwCl (wd_Mo_readBlock w wi wb wo wh wd wm wp wc wl cB cI cJ win won whn wpl wdn wfo wmn wpn wbn wcn wat wnu wif wbf) H → va_D A (wd_Mo_readBlock w wi wb wo wh wd wm wp wc wl cB cI cJ win won whn wpl wdn wfo wmn wpn wbn wcn wat wnu wif wbf) → va_S A s.heap H locs → ∀ (ls : Array Slot), lv_has ls 9 [(0, .ref w), (2, .int x2), (3, .int x3), (4, .int x4)] → W p l e rm_Mo_readBlock s m args below meth c H locs 0 0 (MQ below (sQi (dC, dI) vwCl [(cB, .byte), (cI, .int), (cJ, .long)] A r_z (wd_Mo_readBlock w wi wb wo wh wd wm wp wc wl cB cI cJ win won whn wpl_z wdn wfo wmn wpn wbn_z wcn wat_z wnu_z wif wbf_z)) args s 0 0 A) (F0 m 11 ls [])) : ∀ (n : Nat) (x6 : Int32) (wbn : Int32) (wat : Int32) (wbf : Nat → Int32), loop4 (b_Mo_readBlock_68 N x2 x3 x4 x5 wpl wnu wif kh11) n x6 wbn wat wbf = some (r_z, wpl_z, wbn_z, wat_z, wnu_z, wbf_z) → ∀ (H : Heap) (locs : List Loc), va_P (dC, dI) vwCl (wd_Mo_readBlock w wi wb wo wh wd wm wp wc wl cB cI cJ win won whn wpl wdn wfo wmn wpn wbn wcn wat wnu wif wbf) H → va_D A (wd_Mo_readBlock w wi wb wo wh wd wm wp wc wl cB cI cJ win won whn wpl wdn wfo wmn wpn wbn wcn wat wnu wif wbf) → va_S A s.heap H locs → ∀ (ls : Array Slot), lv_has ls 9 [(0, .ref w), (2, .int x2), (3, .int x3), (4, .int x4), (5, .int x5), (6, .int x6)] → W p l e rm_Mo_readBlock s m args below meth c H locs 0 0 (MQ below (sQi (dC, dI) vwCl [(cB, .byte), (cI, .int), (cJ, .long)] A r_z (wd_Mo_readBlock w wi wb wo wh wd wm wp wc wl cB cI cJ win won whn wpl_z wdn wfo wmn wpn wbn_z wcn wat_z wnu_z wif wbf_z)) args s 0 0 A) (F0 m 68 ls []) := by
  obtain ⟨hx, hb, hml, hown, hts, hr, hlocks, hZ⟩ := id C
  intro n
  induction n with
  | zero => intro x6 wbn wat wbf hf; cases hf
  | succ n ih68 =>
    intro x6 wbn wat wbf hf H locs hP hD hS ls hl
    have hf : b_Mo_readBlock_68 N x2 x3 x4 x5 wpl wnu wif kh11 (loop4 (b_Mo_readBlock_68 N x2 x3 x4 x5 wpl wnu wif kh11) n) x6 wbn wat wbf = some (r_z, wpl_z, wbn_z, wat_z, wnu_z, wbf_z) := hf
    generalize loop4 (b_Mo_readBlock_68 N x2 x3 x4 x5 wpl wnu wif kh11) n = kh68 at hf ih68
    unfold b_Mo_readBlock_68 at hf
    refine lv_iload hx hb d_Mo_readBlock_68 (lv_at hl 5 rfl) ?_
    refine lv_if_le (tgt := 148) hx hb d_Mo_readBlock_70 (by decide) (fun c_70 => ?_) (fun c_70 => ?_)
    · have hf := br_pos c_70 hf
      refine lv_aload_n hx hb d_Mo_readBlock_148 rfl (lv_at hl 0 rfl) ?_
      refine va_get (D := (dC, dI)) (ci := 7) (v := .int wat) (C := R_Mo) (T := T_Mo) (N := 21) hx hb hts w_351 hown hK hP 0 rfl rfl 19 (by decide) (hts _ w_360) (fun _ h9 => h9) rfl d_Mo_readBlock_149 ?_
      refine lv_iload_n hx hb d_Mo_readBlock_152 rfl (lv_at hl 1 rfl) ?_
      refine lv_icmp_ne (tgt := 158) hx hb d_Mo_readBlock_153 (by decide) (fun c_153 => ?_) (fun c_153 => ?_)
      · have hf := br_neg c_153 hf
        refine lv_aload_n hx hb d_Mo_readBlock_158 rfl (lv_at hl 0 rfl) ?_
        refine va_get (D := (dC, dI)) (ci := 7) (v := .int wat) (C := R_Mo) (T := T_Mo) (N := 21) hx hb hts w_351 hown hK hP 0 rfl rfl 19 (by decide) (hts _ w_360) (fun _ h9 => h9) rfl d_Mo_readBlock_159 ?_
        refine lv_istore (lv' := [(6, .int wat), (0, .ref w), (2, .int x2), (3, .int x3), (4, .int x4), (5, .int x5)]) hx hb d_Mo_readBlock_162 hl (by decide) rfl (fun ls hl => ?_)
        refine lv_aload_n hx hb d_Mo_readBlock_164 rfl (lv_at hl 1 rfl) ?_
        refine va_get (D := (dC, dI)) (ci := 7) (v := .int wat) (C := R_Mo) (T := T_Mo) (N := 21) hx hb hts w_351 hown hK hP 0 rfl rfl 19 (by decide) (hts _ w_360) (fun _ h9 => h9) rfl d_Mo_readBlock_165 ?_
        refine lv_iconst (v := 2) hx hb d_Mo_readBlock_168 (by decide) ?_
        refine lv_iadd hx hb d_Mo_readBlock_169 ?_
        refine lv_iload_n hx hb d_Mo_readBlock_170 rfl (lv_at hl 2 rfl) ?_
        refine lv_icmp_le (tgt := 176) hx hb d_Mo_readBlock_171 (by decide) (fun c_171 => ?_) (fun c_171 => ?_)
        · have hf := br_pos c_171 hf
          refine lv_aload_n hx hb d_Mo_readBlock_176 rfl (lv_at hl 1 rfl) ?_
          refine va_get (D := (dC, dI)) (ci := 7) (v := .ref wi) (C := R_Mo) (T := T_Mo) (N := 21) hx hb hts w_351 hown hK hP 0 rfl rfl 0 (by decide) (hts _ w_361) (fun _ h9 => h9) rfl d_Mo_readBlock_177 ?_
          refine lv_aload_n hx hb d_Mo_readBlock_180 rfl (lv_at hl 1 rfl) ?_
          refine va_get (D := (dC, dI)) (ci := 7) (v := .int wat) (C := R_Mo) (T := T_Mo) (N := 21) hx hb hts w_351 hown hK hP 0 rfl rfl 19 (by decide) (hts _ w_360) (fun _ h9 => h9) rfl d_Mo_readBlock_181 ?_
          obtain ⟨h_in, hf⟩ := as_some hf
          refine va_iald hx hb hK hP 1 1 rfl rfl h_in d_Mo_readBlock_184 ?_
          refine lv_sipush (v := 256) hx hb d_Mo_readBlock_185 (by decide) ?_
          refine lv_aload_n hx hb d_Mo_readBlock_188 rfl (lv_at hl 1 rfl) ?_
          refine va_get (D := (dC, dI)) (ci := 7) (v := .ref wi) (C := R_Mo) (T := T_Mo) (N := 21) hx hb hts w_351 hown hK hP 0 rfl rfl 0 (by decide) (hts _ w_361) (fun _ h9 => h9) rfl d_Mo_readBlock_189 ?_
          refine lv_aload_n hx hb d_Mo_readBlock_192 rfl (lv_at hl 1 rfl) ?_
          refine va_get (D := (dC, dI)) (ci := 7) (v := .int wat) (C := R_Mo) (T := T_Mo) (N := 21) hx hb hts w_351 hown hK hP 0 rfl rfl 19 (by decide) (hts _ w_360) (fun _ h9 => h9) rfl d_Mo_readBlock_193 ?_
          refine lv_iconst (v := 1) hx hb d_Mo_readBlock_196 (by decide) ?_
          refine lv_iadd hx hb d_Mo_readBlock_197 ?_
          obtain ⟨h_in, hf⟩ := as_some hf
          refine va_iald hx hb hK hP 1 1 rfl rfl h_in d_Mo_readBlock_198 ?_
          refine lv_imul hx hb d_Mo_readBlock_199 ?_
          refine lv_iadd hx hb d_Mo_readBlock_200 ?_
          refine lv_istore (lv' := [(7, .int ((wif wat.toNatClampNeg) + ((256 : Int32) * (wif (wat + (1 : Int32)).toNatClampNeg)))), (6, .int wat), (0, .ref w), (2, .int x2), (3, .int x3), (4, .int x4), (5, .int x5)]) hx hb d_Mo_readBlock_201 hl (by decide) rfl (fun ls hl => ?_)
          refine lv_aload_n hx hb d_Mo_readBlock_203 rfl (lv_at hl 2 rfl) ?_
          refine lv_dup hx hb d_Mo_readBlock_204 rfl ?_
          refine va_get (D := (dC, dI)) (ci := 7) (v := .int wat) (C := R_Mo) (T := T_Mo) (N := 21) hx hb hts w_351 hown hK hP 0 rfl rfl 19 (by decide) (hts _ w_360) (fun _ h9 => h9) rfl d_Mo_readBlock_205 ?_
          refine lv_iconst (v := 2) hx hb d_Mo_readBlock_208 (by decide) ?_
          refine lv_iadd hx hb d_Mo_readBlock_209 ?_
          refine va_put (D := (dC, dI)) (ci := 7) (v := .int (wat + (2 : Int32))) (ty := .int) (C := R_Mo) (T := T_Mo) (N := 21) hx hb hts w_351 ty_Mo ty_Mo_ok nm_Mo hown hK hP hD hS 0 rfl rfl 19 (by decide) (hts _ w_360) (fun _ h9 => h9) rfl (by decide +kernel) rfl rfl (Nat.le_of_ble_eq_true rfl) d_Mo_readBlock_210 (fun H locs hP hD hS => ?_)
          have hP : va_P (dC, dI) vwCl (wd_Mo_readBlock w wi wb wo wh wd wm wp wc wl cB cI cJ win won whn wpl wdn wfo wmn wpn wbn wcn (wat + (2 : Int32)) wnu wif wbf) H := hP
          have hD : va_D A (wd_Mo_readBlock w wi wb wo wh wd wm wp wc wl cB cI cJ win won whn wpl wdn wfo wmn wpn wbn wcn (wat + (2 : Int32)) wnu wif wbf) := hD
          refine lv_iload hx hb d_Mo_readBlock_213 (lv_at hl 0 rfl) ?_
          refine lv_if_eq (tgt := 227) hx hb d_Mo_readBlock_215 (by decide) (fun c_215 => ?_) (fun c_215 => ?_)
          · have hf := br_pos c_215 hf
            exact k_Mo_readBlock_227 C hK hA wat win won whn wpl wdn wfo wmn wpn wbn wcn (wat + (2 : Int32)) wnu wif wbf  hf hP hD hS (lv_sub hl [2, 1] rfl)
          · have hf := br_neg c_215 hf
            refine lv_iload hx hb d_Mo_readBlock_218 (lv_at hl 0 rfl) ?_
            refine lv_aload_n hx hb d_Mo_readBlock_220 rfl (lv_at hl 2 rfl) ?_
            refine va_get (D := (dC, dI)) (ci := 7) (v := .int wbn) (C := R_Mo) (T := T_Mo) (N := 21) hx hb hts w_351 hown hK hP 0 rfl rfl 15 (by decide) (hts _ w_367) (fun _ h9 => h9) rfl d_Mo_readBlock_221 ?_
            refine lv_icmp_le (tgt := 235) hx hb d_Mo_readBlock_224 (by decide) (fun c_224 => ?_) (fun c_224 => ?_)
            · have hf := br_pos c_224 hf
              refine lv_aload_n hx hb d_Mo_readBlock_235 rfl (lv_at hl 2 rfl) ?_
              refine lv_iload hx hb d_Mo_readBlock_236 (lv_at hl 6 rfl) ?_
              refine lv_bipush (v := 16) hx hb d_Mo_readBlock_238 (by decide) ?_
              refine lv_irem hx hb d_Mo_readBlock_240 (by decide) ?_
              refine lv_iload_n hx hb d_Mo_readBlock_241 rfl (lv_at hl 3 rfl) ?_
              obtain ⟨r242, wat_242, wnu_242, hc242, hf⟩ := bd3_some hf
              refine s_Vi (As := [.int (x5 - x5 / (16 : Int32) * (16 : Int32)), .int x2]) (rest := []) (wr := [(wb, .inl (cI, 16000, .inl wbf))]) (ws' := wd_Mo_readBlock w wi wb wo wh wd wm wp wc wl cB cI cJ win won whn wpl wdn wfo wmn wpn wbn wcn wat_242 wnu_242 wif wbf) C.call (c_Mo_adds l dC dI cB cI cJ w wi wo wh wd wm wp wb wc wl  win won whn wpl wdn wfo wmn wpn wbn wcn (wat + (2 : Int32)) wnu wif (x5 - x5 / (16 : Int32) * (16 : Int32)) x2 hc242) (cwV 2 hts (gd_V w_446 w_447 w_448 w_357 w_449) rfl rfl rfl ⟨rfl, hd_Mo_adds⟩ ⟨Nat.le_of_ble_eq_true rfl, Nat.le_of_ble_eq_true rfl⟩) rfl hl.1 rfl (Nat.le_of_ble_eq_true rfl) d_Mo_readBlock_242 ⟨Nat.le_of_ble_eq_true rfl, Nat.le_of_ble_eq_true rfl⟩ hZ hK hP hD hS hA 7 0 rfl rfl [0, 1] [2] [1, 2, 0] rfl rfl rfl rfl (by decide) rfl rfl (fun H locs hP hD hS => ?_)
              refine lv_if_ne (tgt := 250) hx hb d_Mo_readBlock_245 (by decide) (fun c_245 => ?_) (fun c_245 => ?_)
              · have hf := br_neg c_245 hf
                refine lv_aload_n hx hb d_Mo_readBlock_250 rfl (lv_at hl 2 rfl) ?_
                refine va_get (D := (dC, dI)) (ci := 7) (v := .int wnu_242) (C := R_Mo) (T := T_Mo) (N := 21) hx hb hts w_351 hown hK hP 0 rfl rfl 20 (by decide) (hts _ w_359) (fun _ h9 => h9) rfl d_Mo_readBlock_251 ?_
                refine lv_iconst (v := 4) hx hb d_Mo_readBlock_254 (by decide) ?_
                refine lv_iadd hx hb d_Mo_readBlock_255 ?_
                refine lv_iload_n hx hb d_Mo_readBlock_256 rfl (lv_at hl 4 rfl) ?_
                refine lv_aload_n hx hb d_Mo_readBlock_257 rfl (lv_at hl 2 rfl) ?_
                refine va_get (D := (dC, dI)) (ci := 7) (v := .int wbn) (C := R_Mo) (T := T_Mo) (N := 21) hx hb hts w_351 hown hK hP 0 rfl rfl 15 (by decide) (hts _ w_367) (fun _ h9 => h9) rfl d_Mo_readBlock_258 ?_
                refine lv_iload hx hb d_Mo_readBlock_261 (lv_at hl 5 rfl) ?_
                refine lv_isub hx hb d_Mo_readBlock_263 ?_
                refine lv_isub hx hb d_Mo_readBlock_264 ?_
                refine lv_icmp_le (tgt := 276) hx hb d_Mo_readBlock_265 (by decide) (fun c_265 => ?_) (fun c_265 => ?_)
                · have hf := br_pos c_265 hf
                  refine lv_iconst (v := 0) hx hb d_Mo_readBlock_276 (by decide) ?_
                  refine lv_istore (lv' := [(8, .int (0 : Int32)), (7, .int ((wif wat.toNatClampNeg) + ((256 : Int32) * (wif (wat + (1 : Int32)).toNatClampNeg)))), (6, .int wat), (0, .ref w), (2, .int x2), (3, .int x3), (4, .int x4), (5, .int x5)]) hx hb d_Mo_readBlock_277 hl (by decide) rfl (fun ls hl => ?_)
                  exact k_Mo_readBlock_279 C hK hA x2 x3 x4 ((wif wat.toNatClampNeg) + ((256 : Int32) * (wif (wat + (1 : Int32)).toNatClampNeg))) win won whn wpl wdn wfo wmn wpn wcn wat_242 wnu_242 wif kh11 ih11 N (0 : Int32) wbn wbf hf _ _ hP hD hS _ (lv_sub hl [3, 4, 5, 6, 1, 0] rfl)
                · have hf := br_neg c_265 hf
                  refine lv_aload_n hx hb d_Mo_readBlock_268 rfl (lv_at hl 2 rfl) ?_
                  refine lv_iload hx hb d_Mo_readBlock_269 (lv_at hl 1 rfl) ?_
                  refine va_put (D := (dC, dI)) (ci := 7) (v := .int wat) (ty := .int) (C := R_Mo) (T := T_Mo) (N := 21) hx hb hts w_351 ty_Mo ty_Mo_ok nm_Mo hown hK hP hD hS 0 rfl rfl 6 (by decide) (hts _ w_409) (fun _ h9 => h9) rfl (by decide +kernel) rfl rfl (Nat.le_of_ble_eq_true rfl) d_Mo_readBlock_271 (fun H locs hP hD hS => ?_)
                  have hP : va_P (dC, dI) vwCl (wd_Mo_readBlock w wi wb wo wh wd wm wp wc wl cB cI cJ win won whn wat wdn wfo wmn wpn wbn wcn wat_242 wnu_242 wif wbf) H := hP
                  have hD : va_D A (wd_Mo_readBlock w wi wb wo wh wd wm wp wc wl cB cI cJ win won whn wat wdn wfo wmn wpn wbn wcn wat_242 wnu_242 wif wbf) := hD
                  refine lv_iconst (v := 3) hx hb d_Mo_readBlock_274 (by decide) ?_
                  cases hf
                  exact s_iret hx hb hr hlocks hP hK hD hS d_Mo_readBlock_275
              · have hf := br_pos c_245 hf
                refine lv_iconst (v := 1) hx hb d_Mo_readBlock_248 (by decide) ?_
                cases hf
                exact s_iret hx hb hr hlocks hP hK hD hS d_Mo_readBlock_249
            · have hf := br_neg c_224 hf
              exact k_Mo_readBlock_227 C hK hA wat win won whn wpl wdn wfo wmn wpn wbn wcn (wat + (2 : Int32)) wnu wif wbf  hf hP hD hS (lv_sub hl [2, 1] rfl)
        · have hf := br_neg c_171 hf
          refine lv_iconst (v := 1) hx hb d_Mo_readBlock_174 (by decide) ?_
          cases hf
          exact s_iret hx hb hr hlocks hP hK hD hS d_Mo_readBlock_175
      · have hf := br_pos c_153 hf
        refine lv_iconst (v := 0) hx hb d_Mo_readBlock_156 (by decide) ?_
        cases hf
        exact s_iret hx hb hr hlocks hP hK hD hS d_Mo_readBlock_157
    · have hf := br_neg c_70 hf
      refine lv_aload_n hx hb d_Mo_readBlock_73 rfl (lv_at hl 0 rfl) ?_
      refine va_get (D := (dC, dI)) (ci := 7) (v := .int wat) (C := R_Mo) (T := T_Mo) (N := 21) hx hb hts w_351 hown hK hP 0 rfl rfl 19 (by decide) (hts _ w_360) (fun _ h9 => h9) rfl d_Mo_readBlock_74 ?_
      refine lv_iload_n hx hb d_Mo_readBlock_77 rfl (lv_at hl 1 rfl) ?_
      refine lv_icmp_ne (tgt := 83) hx hb d_Mo_readBlock_78 (by decide) (fun c_78 => ?_) (fun c_78 => ?_)
      · have hf := br_neg c_78 hf
        refine lv_aload_n hx hb d_Mo_readBlock_83 rfl (lv_at hl 0 rfl) ?_
        refine va_get (D := (dC, dI)) (ci := 7) (v := .int wbn) (C := R_Mo) (T := T_Mo) (N := 21) hx hb hts w_351 hown hK hP 0 rfl rfl 15 (by decide) (hts _ w_367) (fun _ h9 => h9) rfl d_Mo_readBlock_84 ?_
        refine lv_iload hx hb d_Mo_readBlock_87 (lv_at hl 3 rfl) ?_
        refine lv_isub hx hb d_Mo_readBlock_89 ?_
        refine lv_iload_n hx hb d_Mo_readBlock_90 rfl (lv_at hl 2 rfl) ?_
        refine lv_icmp_ne (tgt := 104) hx hb d_Mo_readBlock_91 (by decide) (fun c_91 => ?_) (fun c_91 => ?_)
        · have hf := br_neg c_91 hf
          refine lv_aload_n hx hb d_Mo_readBlock_104 rfl (lv_at hl 0 rfl) ?_
          refine va_get (D := (dC, dI)) (ci := 7) (v := .ref wb) (C := R_Mo) (T := T_Mo) (N := 21) hx hb hts w_351 hown hK hP 0 rfl rfl 14 (by decide) (hts _ w_368) (fun _ h9 => h9) rfl d_Mo_readBlock_105 ?_
          refine lv_aload_n hx hb d_Mo_readBlock_108 rfl (lv_at hl 0 rfl) ?_
          refine va_get (D := (dC, dI)) (ci := 7) (v := .int wbn) (C := R_Mo) (T := T_Mo) (N := 21) hx hb hts w_351 hown hK hP 0 rfl rfl 15 (by decide) (hts _ w_367) (fun _ h9 => h9) rfl d_Mo_readBlock_109 ?_
          refine lv_aload_n hx hb d_Mo_readBlock_112 rfl (lv_at hl 0 rfl) ?_
          refine va_get (D := (dC, dI)) (ci := 7) (v := .ref wi) (C := R_Mo) (T := T_Mo) (N := 21) hx hb hts w_351 hown hK hP 0 rfl rfl 0 (by decide) (hts _ w_361) (fun _ h9 => h9) rfl d_Mo_readBlock_113 ?_
          refine lv_aload_n hx hb d_Mo_readBlock_116 rfl (lv_at hl 0 rfl) ?_
          refine va_get (D := (dC, dI)) (ci := 7) (v := .int wat) (C := R_Mo) (T := T_Mo) (N := 21) hx hb hts w_351 hown hK hP 0 rfl rfl 19 (by decide) (hts _ w_360) (fun _ h9 => h9) rfl d_Mo_readBlock_117 ?_
          obtain ⟨h_in, hf⟩ := as_some hf
          refine va_iald hx hb hK hP 1 1 rfl rfl h_in d_Mo_readBlock_120 ?_
          obtain ⟨h_in, hf⟩ := as_some hf
          refine va_iast hx hb hK hP hD hS 2 1 rfl rfl h_in d_Mo_readBlock_121 (fun H locs hP hD hS => ?_)
          have hP : va_P (dC, dI) vwCl (wd_Mo_readBlock w wi wb wo wh wd wm wp wc wl cB cI cJ win won whn wpl wdn wfo wmn wpn wbn wcn wat wnu wif (upd wbf wbn.toNatClampNeg (wif wat.toNatClampNeg))) H := hP
          have hD : va_D A (wd_Mo_readBlock w wi wb wo wh wd wm wp wc wl cB cI cJ win won whn wpl wdn wfo wmn wpn wbn wcn wat wnu wif (upd wbf wbn.toNatClampNeg (wif wat.toNatClampNeg))) := hD
          refine lv_aload_n hx hb d_Mo_readBlock_122 rfl (lv_at hl 0 rfl) ?_
          refine lv_dup hx hb d_Mo_readBlock_123 rfl ?_
          refine va_get (D := (dC, dI)) (ci := 7) (v := .int wbn) (C := R_Mo) (T := T_Mo) (N := 21) hx hb hts w_351 hown hK hP 0 rfl rfl 15 (by decide) (hts _ w_367) (fun _ h9 => h9) rfl d_Mo_readBlock_124 ?_
          refine lv_iconst (v := 1) hx hb d_Mo_readBlock_127 (by decide) ?_
          refine lv_iadd hx hb d_Mo_readBlock_128 ?_
          refine va_put (D := (dC, dI)) (ci := 7) (v := .int (wbn + (1 : Int32))) (ty := .int) (C := R_Mo) (T := T_Mo) (N := 21) hx hb hts w_351 ty_Mo ty_Mo_ok nm_Mo hown hK hP hD hS 0 rfl rfl 15 (by decide) (hts _ w_367) (fun _ h9 => h9) rfl (by decide +kernel) rfl rfl (Nat.le_of_ble_eq_true rfl) d_Mo_readBlock_129 (fun H locs hP hD hS => ?_)
          have hP : va_P (dC, dI) vwCl (wd_Mo_readBlock w wi wb wo wh wd wm wp wc wl cB cI cJ win won whn wpl wdn wfo wmn wpn (wbn + (1 : Int32)) wcn wat wnu wif (upd wbf wbn.toNatClampNeg (wif wat.toNatClampNeg))) H := hP
          have hD : va_D A (wd_Mo_readBlock w wi wb wo wh wd wm wp wc wl cB cI cJ win won whn wpl wdn wfo wmn wpn (wbn + (1 : Int32)) wcn wat wnu wif (upd wbf wbn.toNatClampNeg (wif wat.toNatClampNeg))) := hD
          refine lv_aload_n hx hb d_Mo_readBlock_132 rfl (lv_at hl 0 rfl) ?_
          refine lv_dup hx hb d_Mo_readBlock_133 rfl ?_
          refine va_get (D := (dC, dI)) (ci := 7) (v := .int wat) (C := R_Mo) (T := T_Mo) (N := 21) hx hb hts w_351 hown hK hP 0 rfl rfl 19 (by decide) (hts _ w_360) (fun _ h9 => h9) rfl d_Mo_readBlock_134 ?_
          refine lv_iconst (v := 1) hx hb d_Mo_readBlock_137 (by decide) ?_
          refine lv_iadd hx hb d_Mo_readBlock_138 ?_
          refine va_put (D := (dC, dI)) (ci := 7) (v := .int (wat + (1 : Int32))) (ty := .int) (C := R_Mo) (T := T_Mo) (N := 21) hx hb hts w_351 ty_Mo ty_Mo_ok nm_Mo hown hK hP hD hS 0 rfl rfl 19 (by decide) (hts _ w_360) (fun _ h9 => h9) rfl (by decide +kernel) rfl rfl (Nat.le_of_ble_eq_true rfl) d_Mo_readBlock_139 (fun H locs hP hD hS => ?_)
          have hP : va_P (dC, dI) vwCl (wd_Mo_readBlock w wi wb wo wh wd wm wp wc wl cB cI cJ win won whn wpl wdn wfo wmn wpn (wbn + (1 : Int32)) wcn (wat + (1 : Int32)) wnu wif (upd wbf wbn.toNatClampNeg (wif wat.toNatClampNeg))) H := hP
          have hD : va_D A (wd_Mo_readBlock w wi wb wo wh wd wm wp wc wl cB cI cJ win won whn wpl wdn wfo wmn wpn (wbn + (1 : Int32)) wcn (wat + (1 : Int32)) wnu wif (upd wbf wbn.toNatClampNeg (wif wat.toNatClampNeg))) := hD
          refine lv_iinc (v := (x6 + (-1))) (lv' := [(6, .int (x6 + (-1))), (0, .ref w), (2, .int x2), (3, .int x3), (4, .int x4), (5, .int x5)]) hx hb d_Mo_readBlock_142 hl (k := 5) rfl (congrArg (fun z => x6 + z) (by decide)) (by decide) rfl (fun ls hl => ?_)
          refine lv_goto (tgt := 68) hx hb d_Mo_readBlock_145 (by decide) ?_
          exact ih68 (x6 + (-1)) (wbn + (1 : Int32)) (wat + (1 : Int32)) (upd wbf wbn.toNatClampNeg (wif wat.toNatClampNeg)) hf _ _ hP hD hS _ (lv_sub hl [1, 2, 3, 4, 5, 0] rfl)
        · have hf := br_pos c_91 hf
          refine lv_aload_n hx hb d_Mo_readBlock_94 rfl (lv_at hl 0 rfl) ?_
          refine lv_aload_n hx hb d_Mo_readBlock_95 rfl (lv_at hl 0 rfl) ?_
          refine va_get (D := (dC, dI)) (ci := 7) (v := .int wat) (C := R_Mo) (T := T_Mo) (N := 21) hx hb hts w_351 hown hK hP 0 rfl rfl 19 (by decide) (hts _ w_360) (fun _ h9 => h9) rfl d_Mo_readBlock_96 ?_
          refine va_put (D := (dC, dI)) (ci := 7) (v := .int wat) (ty := .int) (C := R_Mo) (T := T_Mo) (N := 21) hx hb hts w_351 ty_Mo ty_Mo_ok nm_Mo hown hK hP hD hS 0 rfl rfl 6 (by decide) (hts _ w_409) (fun _ h9 => h9) rfl (by decide +kernel) rfl rfl (Nat.le_of_ble_eq_true rfl) d_Mo_readBlock_99 (fun H locs hP hD hS => ?_)
          have hP : va_P (dC, dI) vwCl (wd_Mo_readBlock w wi wb wo wh wd wm wp wc wl cB cI cJ win won whn wat wdn wfo wmn wpn wbn wcn wat wnu wif wbf) H := hP
          have hD : va_D A (wd_Mo_readBlock w wi wb wo wh wd wm wp wc wl cB cI cJ win won whn wat wdn wfo wmn wpn wbn wcn wat wnu wif wbf) := hD
          refine lv_iconst (v := 3) hx hb d_Mo_readBlock_102 (by decide) ?_
          cases hf
          exact s_iret hx hb hr hlocks hP hK hD hS d_Mo_readBlock_103
      · have hf := br_pos c_78 hf
        refine lv_iconst (v := 1) hx hb d_Mo_readBlock_81 (by decide) ?_
        cases hf
        exact s_iret hx hb hr hlocks hP hK hD hS d_Mo_readBlock_82
noncomputable def b_Mo_readBlock_11 (N : Nat) (x2 : Int32) (x3 : Int32) (x4 : Int32) (wif : Nat → Int32)  (kh11 : Int32 → Int32 → Int32 → Int32 → (Nat → Int32) → Option (Int32 × Int32 × Int32 × Int32 × Int32 × (Nat → Int32))) (wpl : Int32) (wbn : Int32) (wat : Int32) (wnu : Int32) (wbf : Nat → Int32) : Option (Int32 × Int32 × Int32 × Int32 × Int32 × (Nat → Int32)) :=
  (if wat = x2 then (some ((1 : Int32), x2, wbn, wat, wnu, wbf) : Option (Int32 × Int32 × Int32 × Int32 × Int32 × (Nat → Int32))) else as_ (vp_in wat 8000) (bd3 (f_Mo_adds N ((wif wat.toNatClampNeg) / (16 : Int32)) x2 (wat + (1 : Int32)) wif) (fun r54 wat_54 wnu_54 => (if r54 = 0 then (some ((1 : Int32), x2, wbn, wat_54, wnu_54, wbf) : Option (Int32 × Int32 × Int32 × Int32 × Int32 × (Nat → Int32))) else (loop4 (b_Mo_readBlock_68 N x2 x3 x4 (wif wat.toNatClampNeg) x2 wnu_54 wif kh11) N wnu_54 wbn wat_54 wbf)))))
set_option maxHeartbeats 4000000 in
set_option maxRecDepth 100000 in
theorem k_Mo_readBlock_11 {r_z : Int32} {wpl_z : Int32} {wbn_z : Int32} {wat_z : Int32} {wnu_z : Int32} {wbf_z : Nat → Int32} (C : Fx p s m args meth c cd_Mo_readBlock 9 R_Mo lw_g (some .int)) (hK : va_K (dC, dI) vwCl [(cB, .byte), (cI, .int), (cJ, .long)] s) (hA : ∀ q, s.heap.size ≤ q → A q) (x2 : Int32) (x3 : Int32) (x4 : Int32) (win : Int32) (won : Int32) (whn : Int32) (wdn : Int32) (wfo : Int32) (wmn : Int32) (wpn : Int32) (wcn : Int32) (wif : Nat → Int32)  : ∀ (n : Nat) (wpl : Int32) (wbn : Int32) (wat : Int32) (wnu : Int32) (wbf : Nat → Int32), loop5 (b_Mo_readBlock_11 N x2 x3 x4 wif ) n wpl wbn wat wnu wbf = some (r_z, wpl_z, wbn_z, wat_z, wnu_z, wbf_z) → ∀ (H : Heap) (locs : List Loc), va_P (dC, dI) vwCl (wd_Mo_readBlock w wi wb wo wh wd wm wp wc wl cB cI cJ win won whn wpl wdn wfo wmn wpn wbn wcn wat wnu wif wbf) H → va_D A (wd_Mo_readBlock w wi wb wo wh wd wm wp wc wl cB cI cJ win won whn wpl wdn wfo wmn wpn wbn wcn wat wnu wif wbf) → va_S A s.heap H locs → ∀ (ls : Array Slot), lv_has ls 9 [(0, .ref w), (2, .int x2), (3, .int x3), (4, .int x4)] → W p l e rm_Mo_readBlock s m args below meth c H locs 0 0 (MQ below (sQi (dC, dI) vwCl [(cB, .byte), (cI, .int), (cJ, .long)] A r_z (wd_Mo_readBlock w wi wb wo wh wd wm wp wc wl cB cI cJ win won whn wpl_z wdn wfo wmn wpn wbn_z wcn wat_z wnu_z wif wbf_z)) args s 0 0 A) (F0 m 11 ls []) := by
  obtain ⟨hx, hb, hml, hown, hts, hr, hlocks, hZ⟩ := id C
  intro n
  induction n with
  | zero => intro wpl wbn wat wnu wbf hf; cases hf
  | succ n ih11 =>
    intro wpl wbn wat wnu wbf hf H locs hP hD hS ls hl
    have hf : b_Mo_readBlock_11 N x2 x3 x4 wif  (loop5 (b_Mo_readBlock_11 N x2 x3 x4 wif ) n) wpl wbn wat wnu wbf = some (r_z, wpl_z, wbn_z, wat_z, wnu_z, wbf_z) := hf
    generalize loop5 (b_Mo_readBlock_11 N x2 x3 x4 wif ) n = kh11 at hf ih11
    unfold b_Mo_readBlock_11 at hf
    refine lv_aload_n hx hb d_Mo_readBlock_11 rfl (lv_at hl 0 rfl) ?_
    refine lv_iload_n hx hb d_Mo_readBlock_12 rfl (lv_at hl 1 rfl) ?_
    refine va_put (D := (dC, dI)) (ci := 7) (v := .int x2) (ty := .int) (C := R_Mo) (T := T_Mo) (N := 21) hx hb hts w_351 ty_Mo ty_Mo_ok nm_Mo hown hK hP hD hS 0 rfl rfl 6 (by decide) (hts _ w_409) (fun _ h9 => h9) rfl (by decide +kernel) rfl rfl (Nat.le_of_ble_eq_true rfl) d_Mo_readBlock_13 (fun H locs hP hD hS => ?_)
    have hP : va_P (dC, dI) vwCl (wd_Mo_readBlock w wi wb wo wh wd wm wp wc wl cB cI cJ win won whn x2 wdn wfo wmn wpn wbn wcn wat wnu wif wbf) H := hP
    have hD : va_D A (wd_Mo_readBlock w wi wb wo wh wd wm wp wc wl cB cI cJ win won whn x2 wdn wfo wmn wpn wbn wcn wat wnu wif wbf) := hD
    refine lv_aload_n hx hb d_Mo_readBlock_16 rfl (lv_at hl 0 rfl) ?_
    refine va_get (D := (dC, dI)) (ci := 7) (v := .int wat) (C := R_Mo) (T := T_Mo) (N := 21) hx hb hts w_351 hown hK hP 0 rfl rfl 19 (by decide) (hts _ w_360) (fun _ h9 => h9) rfl d_Mo_readBlock_17 ?_
    refine lv_iload_n hx hb d_Mo_readBlock_20 rfl (lv_at hl 1 rfl) ?_
    refine lv_icmp_ne (tgt := 26) hx hb d_Mo_readBlock_21 (by decide) (fun c_21 => ?_) (fun c_21 => ?_)
    · have hf := br_neg c_21 hf
      refine lv_aload_n hx hb d_Mo_readBlock_26 rfl (lv_at hl 0 rfl) ?_
      refine va_get (D := (dC, dI)) (ci := 7) (v := .ref wi) (C := R_Mo) (T := T_Mo) (N := 21) hx hb hts w_351 hown hK hP 0 rfl rfl 0 (by decide) (hts _ w_361) (fun _ h9 => h9) rfl d_Mo_readBlock_27 ?_
      refine lv_aload_n hx hb d_Mo_readBlock_30 rfl (lv_at hl 0 rfl) ?_
      refine va_get (D := (dC, dI)) (ci := 7) (v := .int wat) (C := R_Mo) (T := T_Mo) (N := 21) hx hb hts w_351 hown hK hP 0 rfl rfl 19 (by decide) (hts _ w_360) (fun _ h9 => h9) rfl d_Mo_readBlock_31 ?_
      obtain ⟨h_in, hf⟩ := as_some hf
      refine va_iald hx hb hK hP 1 1 rfl rfl h_in d_Mo_readBlock_34 ?_
      refine lv_istore (lv' := [(5, .int (wif wat.toNatClampNeg)), (0, .ref w), (2, .int x2), (3, .int x3), (4, .int x4)]) hx hb d_Mo_readBlock_35 hl (by decide) rfl (fun ls hl => ?_)
      refine lv_aload_n hx hb d_Mo_readBlock_37 rfl (lv_at hl 1 rfl) ?_
      refine lv_dup hx hb d_Mo_readBlock_38 rfl ?_
      refine va_get (D := (dC, dI)) (ci := 7) (v := .int wat) (C := R_Mo) (T := T_Mo) (N := 21) hx hb hts w_351 hown hK hP 0 rfl rfl 19 (by decide) (hts _ w_360) (fun _ h9 => h9) rfl d_Mo_readBlock_39 ?_
      refine lv_iconst (v := 1) hx hb d_Mo_readBlock_42 (by decide) ?_
      refine lv_iadd hx hb d_Mo_readBlock_43 ?_
      refine va_put (D := (dC, dI)) (ci := 7) (v := .int (wat + (1 : Int32))) (ty := .int) (C := R_Mo) (T := T_Mo) (N := 21) hx hb hts w_351 ty_Mo ty_Mo_ok nm_Mo hown hK hP hD hS 0 rfl rfl 19 (by decide) (hts _ w_360) (fun _ h9 => h9) rfl (by decide +kernel) rfl rfl (Nat.le_of_ble_eq_true rfl) d_Mo_readBlock_44 (fun H locs hP hD hS => ?_)
      have hP : va_P (dC, dI) vwCl (wd_Mo_readBlock w wi wb wo wh wd wm wp wc wl cB cI cJ win won whn x2 wdn wfo wmn wpn wbn wcn (wat + (1 : Int32)) wnu wif wbf) H := hP
      have hD : va_D A (wd_Mo_readBlock w wi wb wo wh wd wm wp wc wl cB cI cJ win won whn x2 wdn wfo wmn wpn wbn wcn (wat + (1 : Int32)) wnu wif wbf) := hD
      refine lv_aload_n hx hb d_Mo_readBlock_47 rfl (lv_at hl 1 rfl) ?_
      refine lv_iload hx hb d_Mo_readBlock_48 (lv_at hl 0 rfl) ?_
      refine lv_bipush (v := 16) hx hb d_Mo_readBlock_50 (by decide) ?_
      refine lv_idiv hx hb d_Mo_readBlock_52 (by decide) ?_
      refine lv_iload_n hx hb d_Mo_readBlock_53 rfl (lv_at hl 2 rfl) ?_
      obtain ⟨r54, wat_54, wnu_54, hc54, hf⟩ := bd3_some hf
      refine s_Vi (As := [.int ((wif wat.toNatClampNeg) / (16 : Int32)), .int x2]) (rest := []) (wr := [(wb, .inl (cI, 16000, .inl wbf))]) (ws' := wd_Mo_readBlock w wi wb wo wh wd wm wp wc wl cB cI cJ win won whn x2 wdn wfo wmn wpn wbn wcn wat_54 wnu_54 wif wbf) C.call (c_Mo_adds l dC dI cB cI cJ w wi wo wh wd wm wp wb wc wl  win won whn x2 wdn wfo wmn wpn wbn wcn (wat + (1 : Int32)) wnu wif ((wif wat.toNatClampNeg) / (16 : Int32)) x2 hc54) (cwV 2 hts (gd_V w_446 w_447 w_448 w_357 w_449) rfl rfl rfl ⟨rfl, hd_Mo_adds⟩ ⟨Nat.le_of_ble_eq_true rfl, Nat.le_of_ble_eq_true rfl⟩) rfl hl.1 rfl (Nat.le_of_ble_eq_true rfl) d_Mo_readBlock_54 ⟨Nat.le_of_ble_eq_true rfl, Nat.le_of_ble_eq_true rfl⟩ hZ hK hP hD hS hA 7 0 rfl rfl [0, 1] [2] [1, 2, 0] rfl rfl rfl rfl (by decide) rfl rfl (fun H locs hP hD hS => ?_)
      refine lv_if_ne (tgt := 62) hx hb d_Mo_readBlock_57 (by decide) (fun c_57 => ?_) (fun c_57 => ?_)
      · have hf := br_neg c_57 hf
        refine lv_aload_n hx hb d_Mo_readBlock_62 rfl (lv_at hl 1 rfl) ?_
        refine va_get (D := (dC, dI)) (ci := 7) (v := .int wnu_54) (C := R_Mo) (T := T_Mo) (N := 21) hx hb hts w_351 hown hK hP 0 rfl rfl 20 (by decide) (hts _ w_359) (fun _ h9 => h9) rfl d_Mo_readBlock_63 ?_
        refine lv_istore (lv' := [(6, .int wnu_54), (5, .int (wif wat.toNatClampNeg)), (0, .ref w), (2, .int x2), (3, .int x3), (4, .int x4)]) hx hb d_Mo_readBlock_66 hl (by decide) rfl (fun ls hl => ?_)
        exact k_Mo_readBlock_68 C hK hA x2 x3 x4 (wif wat.toNatClampNeg) win won whn x2 wdn wfo wmn wpn wcn wnu_54 wif kh11 ih11 N wnu_54 wbn wat_54 wbf hf _ _ hP hD hS _ (lv_sub hl [2, 3, 4, 5, 1, 0] rfl)
      · have hf := br_pos c_57 hf
        refine lv_iconst (v := 1) hx hb d_Mo_readBlock_60 (by decide) ?_
        cases hf
        exact s_iret hx hb hr hlocks hP hK hD hS d_Mo_readBlock_61
    · have hf := br_pos c_21 hf
      refine lv_iconst (v := 1) hx hb d_Mo_readBlock_24 (by decide) ?_
      cases hf
      exact s_iret hx hb hr hlocks hP hK hD hS d_Mo_readBlock_25
noncomputable def j_Mo_readBlock_0 (N : Nat) (x1 : Int32) (x2 : Int32) (x3 : Int32) (wpl : Int32) (wbn : Int32) (wnu : Int32) (wif : Nat → Int32) (wbf : Nat → Int32)  : Option (Int32 × Int32 × Int32 × Int32 × Int32 × (Nat → Int32)) :=
  (loop5 (b_Mo_readBlock_11 N x2 x3 wbn wif ) N wpl wbn x1 wnu wbf)
set_option maxHeartbeats 4000000 in
set_option maxRecDepth 100000 in
theorem k_Mo_readBlock_0 {r_z : Int32} {wpl_z : Int32} {wbn_z : Int32} {wat_z : Int32} {wnu_z : Int32} {wbf_z : Nat → Int32} (C : Fx p s m args meth c cd_Mo_readBlock 9 R_Mo lw_g (some .int)) (hK : va_K (dC, dI) vwCl [(cB, .byte), (cI, .int), (cJ, .long)] s) (hA : ∀ q, s.heap.size ≤ q → A q) (x1 : Int32) (x2 : Int32) (x3 : Int32) (win : Int32) (won : Int32) (whn : Int32) (wpl : Int32) (wdn : Int32) (wfo : Int32) (wmn : Int32) (wpn : Int32) (wbn : Int32) (wcn : Int32) (wat : Int32) (wnu : Int32) (wif : Nat → Int32) (wbf : Nat → Int32)  (hf : j_Mo_readBlock_0 N x1 x2 x3 wpl wbn wnu wif wbf  = some (r_z, wpl_z, wbn_z, wat_z, wnu_z, wbf_z)) (hP : va_P (dC, dI) vwCl (wd_Mo_readBlock w wi wb wo wh wd wm wp wc wl cB cI cJ win won whn wpl wdn wfo wmn wpn wbn wcn wat wnu wif wbf) H) (hD : va_D A (wd_Mo_readBlock w wi wb wo wh wd wm wp wc wl cB cI cJ win won whn wpl wdn wfo wmn wpn wbn wcn wat wnu wif wbf)) (hS : va_S A s.heap H locs) (hl : lv_has ls 9 [(0, .ref w), (1, .int x1), (2, .int x2), (3, .int x3)]) : W p l e rm_Mo_readBlock s m args below meth c H locs 0 0 (MQ below (sQi (dC, dI) vwCl [(cB, .byte), (cI, .int), (cJ, .long)] A r_z (wd_Mo_readBlock w wi wb wo wh wd wm wp wc wl cB cI cJ win won whn wpl_z wdn wfo wmn wpn wbn_z wcn wat_z wnu_z wif wbf_z)) args s 0 0 A) (F0 m 0 ls []) := by
  obtain ⟨hx, hb, hml, hown, hts, hr, hlocks, hZ⟩ := id C
  unfold j_Mo_readBlock_0 at hf
  refine lv_aload_n hx hb d_Mo_readBlock_0 rfl (lv_at hl 0 rfl) ?_
  refine lv_iload_n hx hb d_Mo_readBlock_1 rfl (lv_at hl 1 rfl) ?_
  refine va_put (D := (dC, dI)) (ci := 7) (v := .int x1) (ty := .int) (C := R_Mo) (T := T_Mo) (N := 21) hx hb hts w_351 ty_Mo ty_Mo_ok nm_Mo hown hK hP hD hS 0 rfl rfl 19 (by decide) (hts _ w_360) (fun _ h9 => h9) rfl (by decide +kernel) rfl rfl (Nat.le_of_ble_eq_true rfl) d_Mo_readBlock_2 (fun H locs hP hD hS => ?_)
  have hP : va_P (dC, dI) vwCl (wd_Mo_readBlock w wi wb wo wh wd wm wp wc wl cB cI cJ win won whn wpl wdn wfo wmn wpn wbn wcn x1 wnu wif wbf) H := hP
  have hD : va_D A (wd_Mo_readBlock w wi wb wo wh wd wm wp wc wl cB cI cJ win won whn wpl wdn wfo wmn wpn wbn wcn x1 wnu wif wbf) := hD
  refine lv_aload_n hx hb d_Mo_readBlock_5 rfl (lv_at hl 0 rfl) ?_
  refine va_get (D := (dC, dI)) (ci := 7) (v := .int wbn) (C := R_Mo) (T := T_Mo) (N := 21) hx hb hts w_351 hown hK hP 0 rfl rfl 15 (by decide) (hts _ w_367) (fun _ h9 => h9) rfl d_Mo_readBlock_6 ?_
  refine lv_istore (lv' := [(4, .int wbn), (0, .ref w), (1, .int x1), (2, .int x2), (3, .int x3)]) hx hb d_Mo_readBlock_9 hl (by decide) rfl (fun ls hl => ?_)
  exact k_Mo_readBlock_11 C hK hA x2 x3 wbn win won whn wdn wfo wmn wpn wcn wif  N wpl wbn x1 wnu wbf hf _ _ hP hD hS _ (lv_sub hl [1, 3, 4, 0] rfl)
end
noncomputable abbrev f_Mo_readBlock (N : Nat) (x1 : Int32) (x2 : Int32) (x3 : Int32) (wpl : Int32) (wbn : Int32) (wnu : Int32) (wif : Nat → Int32) (wbf : Nat → Int32) : Option (Int32 × Int32 × Int32 × Int32 × Int32 × (Nat → Int32)) := j_Mo_readBlock_0 N x1 x2 x3 wpl wbn wnu wif wbf
set_option maxRecDepth 100000 in
theorem c_Mo_readBlock {N : Nat} (l : Launch) (dC : Nat → ClassId) (dI : Nat → Nat → Nat) (cB cI cJ : ClassId) (w wi wb wo wh wd wm wp wc wl : Nat) (win : Int32) (won : Int32) (whn : Int32) (wpl : Int32) (wdn : Int32) (wfo : Int32) (wmn : Int32) (wpn : Int32) (wbn : Int32) (wcn : Int32) (wat : Int32) (wnu : Int32) (wif : Nat → Int32) (wbf : Nat → Int32) (x1 : Int32) (x2 : Int32) (x3 : Int32) {r_z : Int32} {wpl_z : Int32} {wbn_z : Int32} {wat_z : Int32} {wnu_z : Int32} {wbf_z : Nat → Int32} (hf : f_Mo_readBlock N x1 x2 x3 wpl wbn wnu wif wbf = some (r_z, wpl_z, wbn_z, wat_z, wnu_z, wbf_z)) : MetI l y_Mo_readBlock ws_Mo_readBlock rm_Mo_readBlock (dC, dI) vwCl [(cB, .byte), (cI, .int), (cJ, .long)] [.ref w, .int x1, .int x2, .int x3] (wd_Mo_readBlock w wi wb wo wh wd wm wp wc wl cB cI cJ win won whn wpl wdn wfo wmn wpn wbn wcn wat wnu wif wbf) r_z (wd_Mo_readBlock w wi wb wo wh wd wm wp wc wl cB cI cJ win won whn wpl_z wdn wfo wmn wpn wbn_z wcn wat_z wnu_z wif wbf_z) 0 0 :=
  s_ofi (bytes := cd_Mo_readBlock) (maxL := 9) (ret := (some .int)) (by decide) rfl (Nat.le_of_ble_eq_true rfl) (fun p e s m below meth c A ls C hK hA hP hD hS hl => k_Mo_readBlock_0 C hK hA x1 x2 x3 win won whn wpl wdn wfo wmn wpn wbn wcn wat wnu wif wbf hf hP hD hS (lv_sub hl [0, 1, 2, 3] rfl))

abbrev wd_Mo_readPart (w wi wh wb wc wl wo wd wm wp : Nat) (cB cI cJ : ClassId) (win : Int32) (won : Int32) (whn : Int32) (wpl : Int32) (wdn : Int32) (wfo : Int32) (wmn : Int32) (wpn : Int32) (wbn : Int32) (wcn : Int32) (wat : Int32) (wnu : Int32) (wif : Nat → Int32) (whf : Nat → Int32) (wbf : Nat → Int32) (wcf : Nat → Int32) (wlf : Nat → Int64) : va_W := [(w, .inr (7, [.ref wi, .ref wo, .ref wh, .int win, .int won, .int whn, .int wpl, .ref wd, .int wdn, .int wfo, .ref wm, .int wmn, .ref wp, .int wpn, .ref wb, .int wbn, .ref wc, .int wcn, .ref wl, .int wat, .int wnu])), (wi, .inl (cI, 8000, .inl wif)), (wh, .inl (cI, 8000, .inl whf)), (wb, .inl (cI, 16000, .inl wbf)), (wc, .inl (cI, 8000, .inl wcf)), (wl, .inl (cJ, 4, .inr (.inl wlf)))]
abbrev rm_Mo_readPart : Room := { frames := 2, cells := 0, slots := 0, locals := 61 }
section
variable {p : Program} {l : Launch} {e : Env} {s : State} {m : MethodId} {args : Array Value} {below : List Frame} {meth : Method} {c : Code} {dC : Nat → ClassId} {dI : Nat → Nat → Nat} {A : Nat → Prop} {cB cI cJ : ClassId} {H : Heap} {locs : List Loc} {ls : Array Slot} {N : Nat} {w wi wh wb wc wl wo wd wm wp : Nat}
noncomputable def b_Mo_readPart_360 (x12 : Int32) (wpl : Int32) (wbn : Int32) (wnu : Int32) (wbf : Nat → Int32) (wlf : Nat → Int64)  (kh360 : Int32 → Int32 → (Nat → Int32) → Option (Int32 × Int32 × Int32 × Int32 × Int32 × Int32 × (Nat → Int32) × (Nat → Int32) × (Nat → Int64))) (x16 : Int32) (wcn : Int32) (wcf : Nat → Int32) : Option (Int32 × Int32 × Int32 × Int32 × Int32 × Int32 × (Nat → Int32) × (Nat → Int32) × (Nat → Int64)) :=
  (if wbn ≤ x16 then (some ((0 : Int32), wpl, wbn, wcn, x12, wnu, wbf, wcf, wlf) : Option (Int32 × Int32 × Int32 × Int32 × Int32 × Int32 × (Nat → Int32) × (Nat → Int32) × (Nat → Int64))) else as_ (vp_in x16 16000) (as_ (vp_in wcn 8000) ((kh360 (x16 + 1) (wcn + (1 : Int32)) (upd wcf wcn.toNatClampNeg (wbf x16.toNatClampNeg))))))
set_option maxHeartbeats 4000000 in
set_option maxRecDepth 100000 in
theorem k_Mo_readPart_360 {r_z : Int32} {wpl_z : Int32} {wbn_z : Int32} {wcn_z : Int32} {wat_z : Int32} {wnu_z : Int32} {wbf_z : Nat → Int32} {wcf_z : Nat → Int32} {wlf_z : Nat → Int64} (C : Fx p s m args meth c cd_Mo_readPart 17 R_Mo lw_g (some .int)) (hK : va_K (dC, dI) vwCl [(cB, .byte), (cI, .int), (cJ, .long)] s) (hA : ∀ q, s.heap.size ≤ q → A q) (x12 : Int32) (win : Int32) (won : Int32) (whn : Int32) (wpl : Int32) (wdn : Int32) (wfo : Int32) (wmn : Int32) (wpn : Int32) (wbn : Int32) (wat : Int32) (wnu : Int32) (wif : Nat → Int32) (whf : Nat → Int32) (wbf : Nat → Int32) (wlf : Nat → Int64)  : ∀ (n : Nat) (x16 : Int32) (wcn : Int32) (wcf : Nat → Int32), loop3 (b_Mo_readPart_360 x12 wpl wbn wnu wbf wlf ) n x16 wcn wcf = some (r_z, wpl_z, wbn_z, wcn_z, wat_z, wnu_z, wbf_z, wcf_z, wlf_z) → ∀ (H : Heap) (locs : List Loc), va_P (dC, dI) vwCl (wd_Mo_readPart w wi wh wb wc wl wo wd wm wp cB cI cJ win won whn wpl wdn wfo wmn wpn wbn wcn wat wnu wif whf wbf wcf wlf) H → va_D A (wd_Mo_readPart w wi wh wb wc wl wo wd wm wp cB cI cJ win won whn wpl wdn wfo wmn wpn wbn wcn wat wnu wif whf wbf wcf wlf) → va_S A s.heap H locs → ∀ (ls : Array Slot), lv_has ls 17 [(0, .ref w), (12, .int x12), (16, .int x16)] → W p l e rm_Mo_readPart s m args below meth c H locs 0 0 (MQ below (sQi (dC, dI) vwCl [(cB, .byte), (cI, .int), (cJ, .long)] A r_z (wd_Mo_readPart w wi wh wb wc wl wo wd wm wp cB cI cJ win won whn wpl_z wdn wfo wmn wpn wbn_z wcn_z wat_z wnu_z wif whf wbf_z wcf_z wlf_z)) args s 0 0 A) (F0 m 360 ls []) := by
  obtain ⟨hx, hb, hml, hown, hts, hr, hlocks, hZ⟩ := id C
  intro n
  induction n with
  | zero => intro x16 wcn wcf hf; cases hf
  | succ n ih360 =>
    intro x16 wcn wcf hf H locs hP hD hS ls hl
    have hf : b_Mo_readPart_360 x12 wpl wbn wnu wbf wlf  (loop3 (b_Mo_readPart_360 x12 wpl wbn wnu wbf wlf ) n) x16 wcn wcf = some (r_z, wpl_z, wbn_z, wcn_z, wat_z, wnu_z, wbf_z, wcf_z, wlf_z) := hf
    generalize loop3 (b_Mo_readPart_360 x12 wpl wbn wnu wbf wlf ) n = kh360 at hf ih360
    unfold b_Mo_readPart_360 at hf
    refine lv_iload hx hb d_Mo_readPart_360 (lv_at hl 2 rfl) ?_
    refine lv_aload_n hx hb d_Mo_readPart_362 rfl (lv_at hl 0 rfl) ?_
    refine va_get (D := (dC, dI)) (ci := 7) (v := .int wbn) (C := R_Mo) (T := T_Mo) (N := 21) hx hb hts w_351 hown hK hP 0 rfl rfl 15 (by decide) (hts _ w_367) (fun _ h9 => h9) rfl d_Mo_readPart_363 ?_
    refine lv_icmp_ge (tgt := 401) hx hb d_Mo_readPart_366 (by decide) (fun c_366 => ?_) (fun c_366 => ?_)
    · have hf := br_pos c_366 hf
      refine lv_aload_n hx hb d_Mo_readPart_401 rfl (lv_at hl 0 rfl) ?_
      refine lv_iload hx hb d_Mo_readPart_402 (lv_at hl 1 rfl) ?_
      refine va_put (D := (dC, dI)) (ci := 7) (v := .int x12) (ty := .int) (C := R_Mo) (T := T_Mo) (N := 21) hx hb hts w_351 ty_Mo ty_Mo_ok nm_Mo hown hK hP hD hS 0 rfl rfl 19 (by decide) (hts _ w_360) (fun _ h9 => h9) rfl (by decide +kernel) rfl rfl (Nat.le_of_ble_eq_true rfl) d_Mo_readPart_404 (fun H locs hP hD hS => ?_)
      have hP : va_P (dC, dI) vwCl (wd_Mo_readPart w wi wh wb wc wl wo wd wm wp cB cI cJ win won whn wpl wdn wfo wmn wpn wbn wcn x12 wnu wif whf wbf wcf wlf) H := hP
      have hD : va_D A (wd_Mo_readPart w wi wh wb wc wl wo wd wm wp cB cI cJ win won whn wpl wdn wfo wmn wpn wbn wcn x12 wnu wif whf wbf wcf wlf) := hD
      refine lv_iconst (v := 0) hx hb d_Mo_readPart_407 (by decide) ?_
      cases hf
      exact s_iret hx hb hr hlocks hP hK hD hS d_Mo_readPart_408
    · have hf := br_neg c_366 hf
      refine lv_aload_n hx hb d_Mo_readPart_369 rfl (lv_at hl 0 rfl) ?_
      refine va_get (D := (dC, dI)) (ci := 7) (v := .ref wc) (C := R_Mo) (T := T_Mo) (N := 21) hx hb hts w_351 hown hK hP 0 rfl rfl 16 (by decide) (hts _ w_459) (fun _ h9 => h9) rfl d_Mo_readPart_370 ?_
      refine lv_aload_n hx hb d_Mo_readPart_373 rfl (lv_at hl 0 rfl) ?_
      refine va_get (D := (dC, dI)) (ci := 7) (v := .int wcn) (C := R_Mo) (T := T_Mo) (N := 21) hx hb hts w_351 hown hK hP 0 rfl rfl 17 (by decide) (hts _ w_450) (fun _ h9 => h9) rfl d_Mo_readPart_374 ?_
      refine lv_aload_n hx hb d_Mo_readPart_377 rfl (lv_at hl 0 rfl) ?_
      refine va_get (D := (dC, dI)) (ci := 7) (v := .ref wb) (C := R_Mo) (T := T_Mo) (N := 21) hx hb hts w_351 hown hK hP 0 rfl rfl 14 (by decide) (hts _ w_368) (fun _ h9 => h9) rfl d_Mo_readPart_378 ?_
      refine lv_iload hx hb d_Mo_readPart_381 (lv_at hl 2 rfl) ?_
      obtain ⟨h_in, hf⟩ := as_some hf
      refine va_iald hx hb hK hP 3 1 rfl rfl h_in d_Mo_readPart_383 ?_
      obtain ⟨h_in, hf⟩ := as_some hf
      refine va_iast hx hb hK hP hD hS 4 1 rfl rfl h_in d_Mo_readPart_384 (fun H locs hP hD hS => ?_)
      have hP : va_P (dC, dI) vwCl (wd_Mo_readPart w wi wh wb wc wl wo wd wm wp cB cI cJ win won whn wpl wdn wfo wmn wpn wbn wcn wat wnu wif whf wbf (upd wcf wcn.toNatClampNeg (wbf x16.toNatClampNeg)) wlf) H := hP
      have hD : va_D A (wd_Mo_readPart w wi wh wb wc wl wo wd wm wp cB cI cJ win won whn wpl wdn wfo wmn wpn wbn wcn wat wnu wif whf wbf (upd wcf wcn.toNatClampNeg (wbf x16.toNatClampNeg)) wlf) := hD
      refine lv_aload_n hx hb d_Mo_readPart_385 rfl (lv_at hl 0 rfl) ?_
      refine lv_dup hx hb d_Mo_readPart_386 rfl ?_
      refine va_get (D := (dC, dI)) (ci := 7) (v := .int wcn) (C := R_Mo) (T := T_Mo) (N := 21) hx hb hts w_351 hown hK hP 0 rfl rfl 17 (by decide) (hts _ w_450) (fun _ h9 => h9) rfl d_Mo_readPart_387 ?_
      refine lv_iconst (v := 1) hx hb d_Mo_readPart_390 (by decide) ?_
      refine lv_iadd hx hb d_Mo_readPart_391 ?_
      refine va_put (D := (dC, dI)) (ci := 7) (v := .int (wcn + (1 : Int32))) (ty := .int) (C := R_Mo) (T := T_Mo) (N := 21) hx hb hts w_351 ty_Mo ty_Mo_ok nm_Mo hown hK hP hD hS 0 rfl rfl 17 (by decide) (hts _ w_450) (fun _ h9 => h9) rfl (by decide +kernel) rfl rfl (Nat.le_of_ble_eq_true rfl) d_Mo_readPart_392 (fun H locs hP hD hS => ?_)
      have hP : va_P (dC, dI) vwCl (wd_Mo_readPart w wi wh wb wc wl wo wd wm wp cB cI cJ win won whn wpl wdn wfo wmn wpn wbn (wcn + (1 : Int32)) wat wnu wif whf wbf (upd wcf wcn.toNatClampNeg (wbf x16.toNatClampNeg)) wlf) H := hP
      have hD : va_D A (wd_Mo_readPart w wi wh wb wc wl wo wd wm wp cB cI cJ win won whn wpl wdn wfo wmn wpn wbn (wcn + (1 : Int32)) wat wnu wif whf wbf (upd wcf wcn.toNatClampNeg (wbf x16.toNatClampNeg)) wlf) := hD
      refine lv_iinc (v := (x16 + 1)) (lv' := [(16, .int (x16 + 1)), (0, .ref w), (12, .int x12)]) hx hb d_Mo_readPart_395 hl (k := 2) rfl (congrArg (fun z => x16 + z) (by decide)) (by decide) rfl (fun ls hl => ?_)
      refine lv_goto (tgt := 360) hx hb d_Mo_readPart_398 (by decide) ?_
      exact ih360 (x16 + 1) (wcn + (1 : Int32)) (upd wcf wcn.toNatClampNeg (wbf x16.toNatClampNeg)) hf _ _ hP hD hS _ (lv_sub hl [1, 2, 0] rfl)
noncomputable def j_Mo_readPart_319 (N : Nat) (x10 : Int32) (x11 : Int32) (x12 : Int32) (x13 : Int32) (wpl : Int32) (wbn : Int32) (wcn : Int32) (wnu : Int32) (wif : Nat → Int32) (wbf : Nat → Int32) (wcf : Nat → Int32) (wlf : Nat → Int64)  : Option (Int32 × Int32 × Int32 × Int32 × Int32 × Int32 × (Nat → Int32) × (Nat → Int32) × (Nat → Int64)) :=
  bd6 (f_Mo_readBlock N x10 x11 x13 wpl wbn wnu wif wbf) (fun r332 wpl_332 wbn_332 wat_332 wnu_332 wbf_332 => (if r332 ≤ 0 then (loop3 (b_Mo_readPart_360 x12 wpl_332 wbn_332 wnu_332 wbf_332 wlf ) N wbn wcn wcf) else (if r332 = (1 : Int32) then (some ((9 : Int32), wpl_332, wbn_332, wcn, wat_332, wnu_332, wbf_332, wcf, wlf) : Option (Int32 × Int32 × Int32 × Int32 × Int32 × Int32 × (Nat → Int32) × (Nat → Int32) × (Nat → Int64))) else (some (r332, wpl_332, wbn_332, wcn, wat_332, wnu_332, wbf_332, wcf, wlf) : Option (Int32 × Int32 × Int32 × Int32 × Int32 × Int32 × (Nat → Int32) × (Nat → Int32) × (Nat → Int64))))))
set_option maxHeartbeats 4000000 in
set_option maxRecDepth 100000 in
theorem k_Mo_readPart_319 {r_z : Int32} {wpl_z : Int32} {wbn_z : Int32} {wcn_z : Int32} {wat_z : Int32} {wnu_z : Int32} {wbf_z : Nat → Int32} {wcf_z : Nat → Int32} {wlf_z : Nat → Int64} (C : Fx p s m args meth c cd_Mo_readPart 17 R_Mo lw_g (some .int)) (hK : va_K (dC, dI) vwCl [(cB, .byte), (cI, .int), (cJ, .long)] s) (hA : ∀ q, s.heap.size ≤ q → A q) (x10 : Int32) (x11 : Int32) (x12 : Int32) (x13 : Int32) (win : Int32) (won : Int32) (whn : Int32) (wpl : Int32) (wdn : Int32) (wfo : Int32) (wmn : Int32) (wpn : Int32) (wbn : Int32) (wcn : Int32) (wat : Int32) (wnu : Int32) (wif : Nat → Int32) (whf : Nat → Int32) (wbf : Nat → Int32) (wcf : Nat → Int32) (wlf : Nat → Int64)  (hf : j_Mo_readPart_319 N x10 x11 x12 x13 wpl wbn wcn wnu wif wbf wcf wlf  = some (r_z, wpl_z, wbn_z, wcn_z, wat_z, wnu_z, wbf_z, wcf_z, wlf_z)) (hP : va_P (dC, dI) vwCl (wd_Mo_readPart w wi wh wb wc wl wo wd wm wp cB cI cJ win won whn wpl wdn wfo wmn wpn wbn wcn wat wnu wif whf wbf wcf wlf) H) (hD : va_D A (wd_Mo_readPart w wi wh wb wc wl wo wd wm wp cB cI cJ win won whn wpl wdn wfo wmn wpn wbn wcn wat wnu wif whf wbf wcf wlf)) (hS : va_S A s.heap H locs) (hl : lv_has ls 17 [(0, .ref w), (10, .int x10), (11, .int x11), (12, .int x12), (13, .int x13)]) : W p l e rm_Mo_readPart s m args below meth c H locs 0 0 (MQ below (sQi (dC, dI) vwCl [(cB, .byte), (cI, .int), (cJ, .long)] A r_z (wd_Mo_readPart w wi wh wb wc wl wo wd wm wp cB cI cJ win won whn wpl_z wdn wfo wmn wpn wbn_z wcn_z wat_z wnu_z wif whf wbf_z wcf_z wlf_z)) args s 0 0 A) (F0 m 319 ls []) := by
  obtain ⟨hx, hb, hml, hown, hts, hr, hlocks, hZ⟩ := id C
  unfold j_Mo_readPart_319 at hf
  refine lv_aload_n hx hb d_Mo_readPart_319 rfl (lv_at hl 0 rfl) ?_
  refine va_get (D := (dC, dI)) (ci := 7) (v := .int wbn) (C := R_Mo) (T := T_Mo) (N := 21) hx hb hts w_351 hown hK hP 0 rfl rfl 15 (by decide) (hts _ w_367) (fun _ h9 => h9) rfl d_Mo_readPart_320 ?_
  refine lv_istore (lv' := [(14, .int wbn), (0, .ref w), (10, .int x10), (11, .int x11), (12, .int x12), (13, .int x13)]) hx hb d_Mo_readPart_323 hl (by decide) rfl (fun ls hl => ?_)
  refine lv_aload_n hx hb d_Mo_readPart_325 rfl (lv_at hl 1 rfl) ?_
  refine lv_iload hx hb d_Mo_readPart_326 (lv_at hl 2 rfl) ?_
  refine lv_iload hx hb d_Mo_readPart_328 (lv_at hl 3 rfl) ?_
  refine lv_iload hx hb d_Mo_readPart_330 (lv_at hl 5 rfl) ?_
  obtain ⟨r332, wpl_332, wbn_332, wat_332, wnu_332, wbf_332, hc332, hf⟩ := bd6_some hf
  refine s_Vi (As := [.int x10, .int x11, .int x13]) (rest := []) (wr := [(wh, .inl (cI, 8000, .inl whf)), (wc, .inl (cI, 8000, .inl wcf)), (wl, .inl (cJ, 4, .inr (.inl wlf)))]) (ws' := wd_Mo_readPart w wi wh wb wc wl wo wd wm wp cB cI cJ win won whn wpl_332 wdn wfo wmn wpn wbn_332 wcn wat_332 wnu_332 wif whf wbf_332 wcf wlf) C.call (c_Mo_readBlock l dC dI cB cI cJ w wi wb wo wh wd wm wp wc wl  win won whn wpl wdn wfo wmn wpn wbn wcn wat wnu wif wbf x10 x11 x13 hc332) (cwV 3 hts (gd_V w_455 w_456 w_457 w_357 w_458) rfl rfl rfl ⟨rfl, hd_Mo_readBlock⟩ ⟨Nat.le_of_ble_eq_true rfl, Nat.le_of_ble_eq_true rfl⟩) rfl hl.1 rfl (Nat.le_of_ble_eq_true rfl) d_Mo_readPart_332 ⟨Nat.le_of_ble_eq_true rfl, Nat.le_of_ble_eq_true rfl⟩ hZ hK hP hD hS hA 7 0 rfl rfl [0, 1, 3] [2, 4, 5] [3, 4, 0, 5, 1, 2] rfl rfl rfl rfl (by decide) rfl rfl (fun H locs hP hD hS => ?_)
  refine lv_istore (lv' := [(15, .int r332), (14, .int wbn), (0, .ref w), (10, .int x10), (11, .int x11), (12, .int x12), (13, .int x13)]) hx hb d_Mo_readPart_335 hl (by decide) rfl (fun ls hl => ?_)
  refine lv_iload hx hb d_Mo_readPart_337 (lv_at hl 0 rfl) ?_
  refine lv_if_le (tgt := 356) hx hb d_Mo_readPart_339 (by decide) (fun c_339 => ?_) (fun c_339 => ?_)
  · have hf := br_pos c_339 hf
    refine lv_iload hx hb d_Mo_readPart_356 (lv_at hl 1 rfl) ?_
    refine lv_istore (lv' := [(16, .int wbn), (15, .int r332), (14, .int wbn), (0, .ref w), (10, .int x10), (11, .int x11), (12, .int x12), (13, .int x13)]) hx hb d_Mo_readPart_358 hl (by decide) rfl (fun ls hl => ?_)
    exact k_Mo_readPart_360 C hK hA x12 win won whn wpl_332 wdn wfo wmn wpn wbn_332 wat_332 wnu_332 wif whf wbf_332 wlf  N wbn wcn wcf hf _ _ hP hD hS _ (lv_sub hl [3, 6, 0] rfl)
  · have hf := br_neg c_339 hf
    refine lv_iload hx hb d_Mo_readPart_342 (lv_at hl 0 rfl) ?_
    refine lv_iconst (v := 1) hx hb d_Mo_readPart_344 (by decide) ?_
    refine lv_icmp_ne (tgt := 353) hx hb d_Mo_readPart_345 (by decide) (fun c_345 => ?_) (fun c_345 => ?_)
    · have hf := br_neg c_345 hf
      refine lv_iload hx hb d_Mo_readPart_353 (lv_at hl 0 rfl) ?_
      cases hf
      exact s_iret hx hb hr hlocks hP hK hD hS d_Mo_readPart_355
    · have hf := br_pos c_345 hf
      refine lv_bipush (v := 9) hx hb d_Mo_readPart_348 (by decide) ?_
      refine lv_goto (tgt := 355) hx hb d_Mo_readPart_350 (by decide) ?_
      cases hf
      exact s_iret hx hb hr hlocks hP hK hD hS d_Mo_readPart_355
noncomputable def b_Mo_readPart_271 (N : Nat) (x3 : Int32) (x10 : Int32) (x11 : Int32) (x12 : Int32) (x13 : Int32) (wpl : Int32) (wcn : Int32) (wnu : Int32) (wif : Nat → Int32) (wcf : Nat → Int32) (wlf : Nat → Int64)  (kh271 : Int32 → Int32 → (Nat → Int32) → Option (Int32 × Int32 × Int32 × Int32 × Int32 × Int32 × (Nat → Int32) × (Nat → Int32) × (Nat → Int64))) (x14 : Int32) (wbn : Int32) (wbf : Nat → Int32) : Option (Int32 × Int32 × Int32 × Int32 × Int32 × Int32 × (Nat → Int32) × (Nat → Int32) × (Nat → Int64)) :=
  (if wcn ≤ x14 then (j_Mo_readPart_319 N x10 x11 x12 x13 wpl wbn wcn wnu wif wbf wcf wlf ) else (if (x3 &&& (32 : Int32)) = 0 then as_ (vp_in x14 8000) (as_ (vp_in wbn 16000) ((kh271 (x14 + 1) (wbn + (1 : Int32)) (upd wbf wbn.toNatClampNeg (wcf x14.toNatClampNeg))))) else (j_Mo_readPart_319 N x10 x11 x12 x13 wpl wbn wcn wnu wif wbf wcf wlf )))
set_option maxHeartbeats 4000000 in
set_option maxRecDepth 100000 in
theorem k_Mo_readPart_271 {r_z : Int32} {wpl_z : Int32} {wbn_z : Int32} {wcn_z : Int32} {wat_z : Int32} {wnu_z : Int32} {wbf_z : Nat → Int32} {wcf_z : Nat → Int32} {wlf_z : Nat → Int64} (C : Fx p s m args meth c cd_Mo_readPart 17 R_Mo lw_g (some .int)) (hK : va_K (dC, dI) vwCl [(cB, .byte), (cI, .int), (cJ, .long)] s) (hA : ∀ q, s.heap.size ≤ q → A q) (x3 : Int32) (x10 : Int32) (x11 : Int32) (x12 : Int32) (x13 : Int32) (win : Int32) (won : Int32) (whn : Int32) (wpl : Int32) (wdn : Int32) (wfo : Int32) (wmn : Int32) (wpn : Int32) (wcn : Int32) (wat : Int32) (wnu : Int32) (wif : Nat → Int32) (whf : Nat → Int32) (wcf : Nat → Int32) (wlf : Nat → Int64)  : ∀ (n : Nat) (x14 : Int32) (wbn : Int32) (wbf : Nat → Int32), loop3 (b_Mo_readPart_271 N x3 x10 x11 x12 x13 wpl wcn wnu wif wcf wlf ) n x14 wbn wbf = some (r_z, wpl_z, wbn_z, wcn_z, wat_z, wnu_z, wbf_z, wcf_z, wlf_z) → ∀ (H : Heap) (locs : List Loc), va_P (dC, dI) vwCl (wd_Mo_readPart w wi wh wb wc wl wo wd wm wp cB cI cJ win won whn wpl wdn wfo wmn wpn wbn wcn wat wnu wif whf wbf wcf wlf) H → va_D A (wd_Mo_readPart w wi wh wb wc wl wo wd wm wp cB cI cJ win won whn wpl wdn wfo wmn wpn wbn wcn wat wnu wif whf wbf wcf wlf) → va_S A s.heap H locs → ∀ (ls : Array Slot), lv_has ls 17 [(0, .ref w), (3, .int x3), (10, .int x10), (11, .int x11), (12, .int x12), (13, .int x13), (14, .int x14)] → W p l e rm_Mo_readPart s m args below meth c H locs 0 0 (MQ below (sQi (dC, dI) vwCl [(cB, .byte), (cI, .int), (cJ, .long)] A r_z (wd_Mo_readPart w wi wh wb wc wl wo wd wm wp cB cI cJ win won whn wpl_z wdn wfo wmn wpn wbn_z wcn_z wat_z wnu_z wif whf wbf_z wcf_z wlf_z)) args s 0 0 A) (F0 m 271 ls []) := by
  obtain ⟨hx, hb, hml, hown, hts, hr, hlocks, hZ⟩ := id C
  intro n
  induction n with
  | zero => intro x14 wbn wbf hf; cases hf
  | succ n ih271 =>
    intro x14 wbn wbf hf H locs hP hD hS ls hl
    have hf : b_Mo_readPart_271 N x3 x10 x11 x12 x13 wpl wcn wnu wif wcf wlf  (loop3 (b_Mo_readPart_271 N x3 x10 x11 x12 x13 wpl wcn wnu wif wcf wlf ) n) x14 wbn wbf = some (r_z, wpl_z, wbn_z, wcn_z, wat_z, wnu_z, wbf_z, wcf_z, wlf_z) := hf
    generalize loop3 (b_Mo_readPart_271 N x3 x10 x11 x12 x13 wpl wcn wnu wif wcf wlf ) n = kh271 at hf ih271
    unfold b_Mo_readPart_271 at hf
    refine lv_iload hx hb d_Mo_readPart_271 (lv_at hl 6 rfl) ?_
    refine lv_aload_n hx hb d_Mo_readPart_273 rfl (lv_at hl 0 rfl) ?_
    refine va_get (D := (dC, dI)) (ci := 7) (v := .int wcn) (C := R_Mo) (T := T_Mo) (N := 21) hx hb hts w_351 hown hK hP 0 rfl rfl 17 (by decide) (hts _ w_450) (fun _ h9 => h9) rfl d_Mo_readPart_274 ?_
    refine lv_icmp_ge (tgt := 319) hx hb d_Mo_readPart_277 (by decide) (fun c_277 => ?_) (fun c_277 => ?_)
    · have hf := br_pos c_277 hf
      exact k_Mo_readPart_319 C hK hA x10 x11 x12 x13 win won whn wpl wdn wfo wmn wpn wbn wcn wat wnu wif whf wbf wcf wlf  hf hP hD hS (lv_sub hl [0, 2, 3, 4, 5] rfl)
    · have hf := br_neg c_277 hf
      refine lv_iload_n hx hb d_Mo_readPart_280 rfl (lv_at hl 1 rfl) ?_
      refine lv_bipush (v := 32) hx hb d_Mo_readPart_281 (by decide) ?_
      refine lv_iand hx hb d_Mo_readPart_283 ?_
      refine lv_if_ne (tgt := 319) hx hb d_Mo_readPart_284 (by decide) (fun c_284 => ?_) (fun c_284 => ?_)
      · have hf := br_neg c_284 hf
        exact k_Mo_readPart_319 C hK hA x10 x11 x12 x13 win won whn wpl wdn wfo wmn wpn wbn wcn wat wnu wif whf wbf wcf wlf  hf hP hD hS (lv_sub hl [0, 2, 3, 4, 5] rfl)
      · have hf := br_pos c_284 hf
        refine lv_aload_n hx hb d_Mo_readPart_287 rfl (lv_at hl 0 rfl) ?_
        refine va_get (D := (dC, dI)) (ci := 7) (v := .ref wb) (C := R_Mo) (T := T_Mo) (N := 21) hx hb hts w_351 hown hK hP 0 rfl rfl 14 (by decide) (hts _ w_368) (fun _ h9 => h9) rfl d_Mo_readPart_288 ?_
        refine lv_aload_n hx hb d_Mo_readPart_291 rfl (lv_at hl 0 rfl) ?_
        refine va_get (D := (dC, dI)) (ci := 7) (v := .int wbn) (C := R_Mo) (T := T_Mo) (N := 21) hx hb hts w_351 hown hK hP 0 rfl rfl 15 (by decide) (hts _ w_367) (fun _ h9 => h9) rfl d_Mo_readPart_292 ?_
        refine lv_aload_n hx hb d_Mo_readPart_295 rfl (lv_at hl 0 rfl) ?_
        refine va_get (D := (dC, dI)) (ci := 7) (v := .ref wc) (C := R_Mo) (T := T_Mo) (N := 21) hx hb hts w_351 hown hK hP 0 rfl rfl 16 (by decide) (hts _ w_459) (fun _ h9 => h9) rfl d_Mo_readPart_296 ?_
        refine lv_iload hx hb d_Mo_readPart_299 (lv_at hl 6 rfl) ?_
        obtain ⟨h_in, hf⟩ := as_some hf
        refine va_iald hx hb hK hP 4 1 rfl rfl h_in d_Mo_readPart_301 ?_
        obtain ⟨h_in, hf⟩ := as_some hf
        refine va_iast hx hb hK hP hD hS 3 1 rfl rfl h_in d_Mo_readPart_302 (fun H locs hP hD hS => ?_)
        have hP : va_P (dC, dI) vwCl (wd_Mo_readPart w wi wh wb wc wl wo wd wm wp cB cI cJ win won whn wpl wdn wfo wmn wpn wbn wcn wat wnu wif whf (upd wbf wbn.toNatClampNeg (wcf x14.toNatClampNeg)) wcf wlf) H := hP
        have hD : va_D A (wd_Mo_readPart w wi wh wb wc wl wo wd wm wp cB cI cJ win won whn wpl wdn wfo wmn wpn wbn wcn wat wnu wif whf (upd wbf wbn.toNatClampNeg (wcf x14.toNatClampNeg)) wcf wlf) := hD
        refine lv_aload_n hx hb d_Mo_readPart_303 rfl (lv_at hl 0 rfl) ?_
        refine lv_dup hx hb d_Mo_readPart_304 rfl ?_
        refine va_get (D := (dC, dI)) (ci := 7) (v := .int wbn) (C := R_Mo) (T := T_Mo) (N := 21) hx hb hts w_351 hown hK hP 0 rfl rfl 15 (by decide) (hts _ w_367) (fun _ h9 => h9) rfl d_Mo_readPart_305 ?_
        refine lv_iconst (v := 1) hx hb d_Mo_readPart_308 (by decide) ?_
        refine lv_iadd hx hb d_Mo_readPart_309 ?_
        refine va_put (D := (dC, dI)) (ci := 7) (v := .int (wbn + (1 : Int32))) (ty := .int) (C := R_Mo) (T := T_Mo) (N := 21) hx hb hts w_351 ty_Mo ty_Mo_ok nm_Mo hown hK hP hD hS 0 rfl rfl 15 (by decide) (hts _ w_367) (fun _ h9 => h9) rfl (by decide +kernel) rfl rfl (Nat.le_of_ble_eq_true rfl) d_Mo_readPart_310 (fun H locs hP hD hS => ?_)
        have hP : va_P (dC, dI) vwCl (wd_Mo_readPart w wi wh wb wc wl wo wd wm wp cB cI cJ win won whn wpl wdn wfo wmn wpn (wbn + (1 : Int32)) wcn wat wnu wif whf (upd wbf wbn.toNatClampNeg (wcf x14.toNatClampNeg)) wcf wlf) H := hP
        have hD : va_D A (wd_Mo_readPart w wi wh wb wc wl wo wd wm wp cB cI cJ win won whn wpl wdn wfo wmn wpn (wbn + (1 : Int32)) wcn wat wnu wif whf (upd wbf wbn.toNatClampNeg (wcf x14.toNatClampNeg)) wcf wlf) := hD
        refine lv_iinc (v := (x14 + 1)) (lv' := [(14, .int (x14 + 1)), (0, .ref w), (3, .int x3), (10, .int x10), (11, .int x11), (12, .int x12), (13, .int x13)]) hx hb d_Mo_readPart_313 hl (k := 6) rfl (congrArg (fun z => x14 + z) (by decide)) (by decide) rfl (fun ls hl => ?_)
        refine lv_goto (tgt := 271) hx hb d_Mo_readPart_316 (by decide) ?_
        exact ih271 (x14 + 1) (wbn + (1 : Int32)) (upd wbf wbn.toNatClampNeg (wcf x14.toNatClampNeg)) hf _ _ hP hD hS _ (lv_sub hl [1, 2, 3, 4, 5, 6, 0] rfl)
noncomputable def b_Mo_readPart_222 (x11 : Int32) (wpl : Int32) (wbn : Int32) (wat : Int32) (wnu : Int32) (wif : Nat → Int32) (wbf : Nat → Int32) (wlf : Nat → Int64)  (kh222 : Int32 → Int32 → (Nat → Int32) → Option (Int32 × Int32 × Int32 × Int32 × Int32 × Int32 × (Nat → Int32) × (Nat → Int32) × (Nat → Int64))) (x14 : Int32) (wcn : Int32) (wcf : Nat → Int32) : Option (Int32 × Int32 × Int32 × Int32 × Int32 × Int32 × (Nat → Int32) × (Nat → Int32) × (Nat → Int64)) :=
  (if x11 ≤ x14 then (some ((0 : Int32), wpl, wbn, wcn, wat, wnu, wbf, wcf, wlf) : Option (Int32 × Int32 × Int32 × Int32 × Int32 × Int32 × (Nat → Int32) × (Nat → Int32) × (Nat → Int64))) else as_ (vp_in x14 8000) (as_ (vp_in wcn 8000) ((kh222 (x14 + 1) (wcn + (1 : Int32)) (upd wcf wcn.toNatClampNeg (wif x14.toNatClampNeg))))))
set_option maxHeartbeats 4000000 in
set_option maxRecDepth 100000 in
theorem k_Mo_readPart_222 {r_z : Int32} {wpl_z : Int32} {wbn_z : Int32} {wcn_z : Int32} {wat_z : Int32} {wnu_z : Int32} {wbf_z : Nat → Int32} {wcf_z : Nat → Int32} {wlf_z : Nat → Int64} (C : Fx p s m args meth c cd_Mo_readPart 17 R_Mo lw_g (some .int)) (hK : va_K (dC, dI) vwCl [(cB, .byte), (cI, .int), (cJ, .long)] s) (hA : ∀ q, s.heap.size ≤ q → A q) (x11 : Int32) (win : Int32) (won : Int32) (whn : Int32) (wpl : Int32) (wdn : Int32) (wfo : Int32) (wmn : Int32) (wpn : Int32) (wbn : Int32) (wat : Int32) (wnu : Int32) (wif : Nat → Int32) (whf : Nat → Int32) (wbf : Nat → Int32) (wlf : Nat → Int64)  : ∀ (n : Nat) (x14 : Int32) (wcn : Int32) (wcf : Nat → Int32), loop3 (b_Mo_readPart_222 x11 wpl wbn wat wnu wif wbf wlf ) n x14 wcn wcf = some (r_z, wpl_z, wbn_z, wcn_z, wat_z, wnu_z, wbf_z, wcf_z, wlf_z) → ∀ (H : Heap) (locs : List Loc), va_P (dC, dI) vwCl (wd_Mo_readPart w wi wh wb wc wl wo wd wm wp cB cI cJ win won whn wpl wdn wfo wmn wpn wbn wcn wat wnu wif whf wbf wcf wlf) H → va_D A (wd_Mo_readPart w wi wh wb wc wl wo wd wm wp cB cI cJ win won whn wpl wdn wfo wmn wpn wbn wcn wat wnu wif whf wbf wcf wlf) → va_S A s.heap H locs → ∀ (ls : Array Slot), lv_has ls 17 [(0, .ref w), (11, .int x11), (14, .int x14)] → W p l e rm_Mo_readPart s m args below meth c H locs 0 0 (MQ below (sQi (dC, dI) vwCl [(cB, .byte), (cI, .int), (cJ, .long)] A r_z (wd_Mo_readPart w wi wh wb wc wl wo wd wm wp cB cI cJ win won whn wpl_z wdn wfo wmn wpn wbn_z wcn_z wat_z wnu_z wif whf wbf_z wcf_z wlf_z)) args s 0 0 A) (F0 m 222 ls []) := by
  obtain ⟨hx, hb, hml, hown, hts, hr, hlocks, hZ⟩ := id C
  intro n
  induction n with
  | zero => intro x14 wcn wcf hf; cases hf
  | succ n ih222 =>
    intro x14 wcn wcf hf H locs hP hD hS ls hl
    have hf : b_Mo_readPart_222 x11 wpl wbn wat wnu wif wbf wlf  (loop3 (b_Mo_readPart_222 x11 wpl wbn wat wnu wif wbf wlf ) n) x14 wcn wcf = some (r_z, wpl_z, wbn_z, wcn_z, wat_z, wnu_z, wbf_z, wcf_z, wlf_z) := hf
    generalize loop3 (b_Mo_readPart_222 x11 wpl wbn wat wnu wif wbf wlf ) n = kh222 at hf ih222
    unfold b_Mo_readPart_222 at hf
    refine lv_iload hx hb d_Mo_readPart_222 (lv_at hl 2 rfl) ?_
    refine lv_iload hx hb d_Mo_readPart_224 (lv_at hl 1 rfl) ?_
    refine lv_icmp_ge (tgt := 261) hx hb d_Mo_readPart_226 (by decide) (fun c_226 => ?_) (fun c_226 => ?_)
    · have hf := br_pos c_226 hf
      refine lv_iconst (v := 0) hx hb d_Mo_readPart_261 (by decide) ?_
      cases hf
      exact s_iret hx hb hr hlocks hP hK hD hS d_Mo_readPart_262
    · have hf := br_neg c_226 hf
      refine lv_aload_n hx hb d_Mo_readPart_229 rfl (lv_at hl 0 rfl) ?_
      refine va_get (D := (dC, dI)) (ci := 7) (v := .ref wc) (C := R_Mo) (T := T_Mo) (N := 21) hx hb hts w_351 hown hK hP 0 rfl rfl 16 (by decide) (hts _ w_459) (fun _ h9 => h9) rfl d_Mo_readPart_230 ?_
      refine lv_aload_n hx hb d_Mo_readPart_233 rfl (lv_at hl 0 rfl) ?_
      refine va_get (D := (dC, dI)) (ci := 7) (v := .int wcn) (C := R_Mo) (T := T_Mo) (N := 21) hx hb hts w_351 hown hK hP 0 rfl rfl 17 (by decide) (hts _ w_450) (fun _ h9 => h9) rfl d_Mo_readPart_234 ?_
      refine lv_aload_n hx hb d_Mo_readPart_237 rfl (lv_at hl 0 rfl) ?_
      refine va_get (D := (dC, dI)) (ci := 7) (v := .ref wi) (C := R_Mo) (T := T_Mo) (N := 21) hx hb hts w_351 hown hK hP 0 rfl rfl 0 (by decide) (hts _ w_361) (fun _ h9 => h9) rfl d_Mo_readPart_238 ?_
      refine lv_iload hx hb d_Mo_readPart_241 (lv_at hl 2 rfl) ?_
      obtain ⟨h_in, hf⟩ := as_some hf
      refine va_iald hx hb hK hP 1 1 rfl rfl h_in d_Mo_readPart_243 ?_
      obtain ⟨h_in, hf⟩ := as_some hf
      refine va_iast hx hb hK hP hD hS 4 1 rfl rfl h_in d_Mo_readPart_244 (fun H locs hP hD hS => ?_)
      have hP : va_P (dC, dI) vwCl (wd_Mo_readPart w wi wh wb wc wl wo wd wm wp cB cI cJ win won whn wpl wdn wfo wmn wpn wbn wcn wat wnu wif whf wbf (upd wcf wcn.toNatClampNeg (wif x14.toNatClampNeg)) wlf) H := hP
      have hD : va_D A (wd_Mo_readPart w wi wh wb wc wl wo wd wm wp cB cI cJ win won whn wpl wdn wfo wmn wpn wbn wcn wat wnu wif whf wbf (upd wcf wcn.toNatClampNeg (wif x14.toNatClampNeg)) wlf) := hD
      refine lv_aload_n hx hb d_Mo_readPart_245 rfl (lv_at hl 0 rfl) ?_
      refine lv_dup hx hb d_Mo_readPart_246 rfl ?_
      refine va_get (D := (dC, dI)) (ci := 7) (v := .int wcn) (C := R_Mo) (T := T_Mo) (N := 21) hx hb hts w_351 hown hK hP 0 rfl rfl 17 (by decide) (hts _ w_450) (fun _ h9 => h9) rfl d_Mo_readPart_247 ?_
      refine lv_iconst (v := 1) hx hb d_Mo_readPart_250 (by decide) ?_
      refine lv_iadd hx hb d_Mo_readPart_251 ?_
      refine va_put (D := (dC, dI)) (ci := 7) (v := .int (wcn + (1 : Int32))) (ty := .int) (C := R_Mo) (T := T_Mo) (N := 21) hx hb hts w_351 ty_Mo ty_Mo_ok nm_Mo hown hK hP hD hS 0 rfl rfl 17 (by decide) (hts _ w_450) (fun _ h9 => h9) rfl (by decide +kernel) rfl rfl (Nat.le_of_ble_eq_true rfl) d_Mo_readPart_252 (fun H locs hP hD hS => ?_)
      have hP : va_P (dC, dI) vwCl (wd_Mo_readPart w wi wh wb wc wl wo wd wm wp cB cI cJ win won whn wpl wdn wfo wmn wpn wbn (wcn + (1 : Int32)) wat wnu wif whf wbf (upd wcf wcn.toNatClampNeg (wif x14.toNatClampNeg)) wlf) H := hP
      have hD : va_D A (wd_Mo_readPart w wi wh wb wc wl wo wd wm wp cB cI cJ win won whn wpl wdn wfo wmn wpn wbn (wcn + (1 : Int32)) wat wnu wif whf wbf (upd wcf wcn.toNatClampNeg (wif x14.toNatClampNeg)) wlf) := hD
      refine lv_iinc (v := (x14 + 1)) (lv' := [(14, .int (x14 + 1)), (0, .ref w), (11, .int x11)]) hx hb d_Mo_readPart_255 hl (k := 2) rfl (congrArg (fun z => x14 + z) (by decide)) (by decide) rfl (fun ls hl => ?_)
      refine lv_goto (tgt := 222) hx hb d_Mo_readPart_258 (by decide) ?_
      exact ih222 (x14 + 1) (wcn + (1 : Int32)) (upd wcf wcn.toNatClampNeg (wif x14.toNatClampNeg)) hf _ _ hP hD hS _ (lv_sub hl [1, 2, 0] rfl)
noncomputable def j_Mo_readPart_178 (N : Nat) (x3 : Int32) (x5 : Int32) (x6 : Int32) (x7 : Int32) (x8 : Int64) (x10 : Int32) (x11 : Int32) (whn : Int32) (wpl : Int32) (wbn : Int32) (wcn : Int32) (wat : Int32) (wnu : Int32) (wif : Nat → Int32) (whf : Nat → Int32) (wbf : Nat → Int32) (wcf : Nat → Int32) (wlf : Nat → Int64)  : Option (Int32 × Int32 × Int32 × Int32 × Int32 × Int32 × (Nat → Int32) × (Nat → Int32) × (Nat → Int64)) :=
  (if x7 = 0 then bd2 (f_Mo_beginBack N whn whf wbf) (fun wbn_264 wbf_264 => (loop3 (b_Mo_readPart_271 N x3 x10 x11 wat (x6 - wcn) wpl wcn wnu wif wcf wlf ) N x5 wbn_264 wbf_264)) else (if (lg_cmp x8 ((x6 - wcn).toInt64)) ≤ 0 then (loop3 (b_Mo_readPart_222 x11 wpl wbn wat wnu wif wbf wlf ) N x10 wcn wcf) else bd2 (f_Mo_fault (3 : Int32) (x10 + (x6 - wcn))) (fun r214 wpl_214 => (some (r214, wpl_214, wbn, wcn, wat, wnu, wbf, wcf, wlf) : Option (Int32 × Int32 × Int32 × Int32 × Int32 × Int32 × (Nat → Int32) × (Nat → Int32) × (Nat → Int64))))))
set_option maxHeartbeats 4000000 in
set_option maxRecDepth 100000 in
theorem k_Mo_readPart_178 {r_z : Int32} {wpl_z : Int32} {wbn_z : Int32} {wcn_z : Int32} {wat_z : Int32} {wnu_z : Int32} {wbf_z : Nat → Int32} {wcf_z : Nat → Int32} {wlf_z : Nat → Int64} (C : Fx p s m args meth c cd_Mo_readPart 17 R_Mo lw_g (some .int)) (hK : va_K (dC, dI) vwCl [(cB, .byte), (cI, .int), (cJ, .long)] s) (hA : ∀ q, s.heap.size ≤ q → A q) (x3 : Int32) (x5 : Int32) (x6 : Int32) (x7 : Int32) (x8 : Int64) (x10 : Int32) (x11 : Int32) (win : Int32) (won : Int32) (whn : Int32) (wpl : Int32) (wdn : Int32) (wfo : Int32) (wmn : Int32) (wpn : Int32) (wbn : Int32) (wcn : Int32) (wat : Int32) (wnu : Int32) (wif : Nat → Int32) (whf : Nat → Int32) (wbf : Nat → Int32) (wcf : Nat → Int32) (wlf : Nat → Int64)  (hf : j_Mo_readPart_178 N x3 x5 x6 x7 x8 x10 x11 whn wpl wbn wcn wat wnu wif whf wbf wcf wlf  = some (r_z, wpl_z, wbn_z, wcn_z, wat_z, wnu_z, wbf_z, wcf_z, wlf_z)) (hP : va_P (dC, dI) vwCl (wd_Mo_readPart w wi wh wb wc wl wo wd wm wp cB cI cJ win won whn wpl wdn wfo wmn wpn wbn wcn wat wnu wif whf wbf wcf wlf) H) (hD : va_D A (wd_Mo_readPart w wi wh wb wc wl wo wd wm wp cB cI cJ win won whn wpl wdn wfo wmn wpn wbn wcn wat wnu wif whf wbf wcf wlf)) (hS : va_S A s.heap H locs) (hl : lv_has ls 17 [(0, .ref w), (3, .int x3), (5, .int x5), (6, .int x6), (7, .int x7), (8, .long x8), (10, .int x10), (11, .int x11)]) : W p l e rm_Mo_readPart s m args below meth c H locs 0 0 (MQ below (sQi (dC, dI) vwCl [(cB, .byte), (cI, .int), (cJ, .long)] A r_z (wd_Mo_readPart w wi wh wb wc wl wo wd wm wp cB cI cJ win won whn wpl_z wdn wfo wmn wpn wbn_z wcn_z wat_z wnu_z wif whf wbf_z wcf_z wlf_z)) args s 0 0 A) (F0 m 178 ls []) := by
  obtain ⟨hx, hb, hml, hown, hts, hr, hlocks, hZ⟩ := id C
  unfold j_Mo_readPart_178 at hf
  refine lv_aload_n hx hb d_Mo_readPart_178 rfl (lv_at hl 0 rfl) ?_
  refine va_get (D := (dC, dI)) (ci := 7) (v := .int wat) (C := R_Mo) (T := T_Mo) (N := 21) hx hb hts w_351 hown hK hP 0 rfl rfl 19 (by decide) (hts _ w_360) (fun _ h9 => h9) rfl d_Mo_readPart_179 ?_
  refine lv_istore (lv' := [(12, .int wat), (0, .ref w), (3, .int x3), (5, .int x5), (6, .int x6), (7, .int x7), (8, .long x8), (10, .int x10), (11, .int x11)]) hx hb d_Mo_readPart_182 hl (by decide) rfl (fun ls hl => ?_)
  refine lv_iload hx hb d_Mo_readPart_184 (lv_at hl 4 rfl) ?_
  refine lv_aload_n hx hb d_Mo_readPart_186 rfl (lv_at hl 1 rfl) ?_
  refine va_get (D := (dC, dI)) (ci := 7) (v := .int wcn) (C := R_Mo) (T := T_Mo) (N := 21) hx hb hts w_351 hown hK hP 0 rfl rfl 17 (by decide) (hts _ w_450) (fun _ h9 => h9) rfl d_Mo_readPart_187 ?_
  refine lv_isub hx hb d_Mo_readPart_190 ?_
  refine lv_istore (lv' := [(13, .int (x6 - wcn)), (12, .int wat), (0, .ref w), (3, .int x3), (5, .int x5), (6, .int x6), (7, .int x7), (8, .long x8), (10, .int x10), (11, .int x11)]) hx hb d_Mo_readPart_191 hl (by decide) rfl (fun ls hl => ?_)
  refine lv_iload hx hb d_Mo_readPart_193 (lv_at hl 6 rfl) ?_
  refine lv_if_eq (tgt := 263) hx hb d_Mo_readPart_195 (by decide) (fun c_195 => ?_) (fun c_195 => ?_)
  · have hf := br_pos c_195 hf
    refine lv_aload_n hx hb d_Mo_readPart_263 rfl (lv_at hl 2 rfl) ?_
    obtain ⟨wbn_264, wbf_264, hc264, hf⟩ := bd2_some hf
    refine s_Vv (As := []) (rest := []) (wr := [(wi, .inl (cI, 8000, .inl wif)), (wc, .inl (cI, 8000, .inl wcf)), (wl, .inl (cJ, 4, .inr (.inl wlf)))]) (ws' := wd_Mo_readPart w wi wh wb wc wl wo wd wm wp cB cI cJ win won whn wpl wdn wfo wmn wpn wbn_264 wcn wat wnu wif whf wbf_264 wcf wlf) C.call (c_Mo_beginBack l dC dI cB cI cJ w wh wb wi wo wd wm wp wc wl  win won whn wpl wdn wfo wmn wpn wbn wcn wat wnu whf wbf  hc264) (cwV 0 hts (gd_V w_451 w_452 w_453 w_357 w_454) rfl rfl rfl ⟨rfl, hd_Mo_beginBack⟩ ⟨Nat.le_of_ble_eq_true rfl, Nat.le_of_ble_eq_true rfl⟩) rfl hl.1 rfl (Nat.le_of_ble_eq_true rfl) d_Mo_readPart_264 ⟨Nat.le_of_ble_eq_true rfl, Nat.le_of_ble_eq_true rfl⟩ hZ hK hP hD hS hA 7 0 rfl rfl [0, 2, 3] [1, 4, 5] [3, 0, 4, 5, 1, 2] rfl rfl rfl rfl (by decide) rfl rfl (fun H locs hP hD hS => ?_)
    refine lv_iload hx hb d_Mo_readPart_267 (lv_at hl 4 rfl) ?_
    refine lv_istore (lv' := [(14, .int x5), (13, .int (x6 - wcn)), (12, .int wat), (0, .ref w), (3, .int x3), (5, .int x5), (6, .int x6), (7, .int x7), (8, .long x8), (10, .int x10), (11, .int x11)]) hx hb d_Mo_readPart_269 hl (by decide) rfl (fun ls hl => ?_)
    exact k_Mo_readPart_271 C hK hA x3 x10 x11 wat (x6 - wcn) win won whn wpl wdn wfo wmn wpn wcn wat wnu wif whf wcf wlf  N x5 wbn_264 wbf_264 hf _ _ hP hD hS _ (lv_sub hl [3, 4, 9, 10, 2, 1, 0] rfl)
  · have hf := br_neg c_195 hf
    refine lv_lload hx hb d_Mo_readPart_198 (lv_at hl 7 rfl) ?_
    refine lv_iload hx hb d_Mo_readPart_200 (lv_at hl 0 rfl) ?_
    refine lv_i2l (v := ((x6 - wcn).toInt64)) hx hb d_Mo_readPart_202 rfl ?_
    refine W.lcmp hx hb d_Mo_readPart_203 ?_
    refine lv_if_le (tgt := 218) hx hb d_Mo_readPart_204 (by decide) (fun c_204 => ?_) (fun c_204 => ?_)
    · have hf := br_pos c_204 hf
      refine lv_iload hx hb d_Mo_readPart_218 (lv_at hl 8 rfl) ?_
      refine lv_istore (lv' := [(14, .int x10), (13, .int (x6 - wcn)), (12, .int wat), (0, .ref w), (3, .int x3), (5, .int x5), (6, .int x6), (7, .int x7), (8, .long x8), (10, .int x10), (11, .int x11)]) hx hb d_Mo_readPart_220 hl (by decide) rfl (fun ls hl => ?_)
      exact k_Mo_readPart_222 C hK hA x11 win won whn wpl wdn wfo wmn wpn wbn wat wnu wif whf wbf wlf  N x10 wcn wcf hf _ _ hP hD hS _ (lv_sub hl [3, 10, 0] rfl)
    · have hf := br_neg c_204 hf
      refine lv_aload_n hx hb d_Mo_readPart_207 rfl (lv_at hl 2 rfl) ?_
      refine lv_iconst (v := 3) hx hb d_Mo_readPart_208 (by decide) ?_
      refine lv_iload hx hb d_Mo_readPart_209 (lv_at hl 8 rfl) ?_
      refine lv_iload hx hb d_Mo_readPart_211 (lv_at hl 0 rfl) ?_
      refine lv_iadd hx hb d_Mo_readPart_213 ?_
      obtain ⟨r214, wpl_214, hc214, hf⟩ := bd2_some hf
      refine s_Vi (As := [.int (3 : Int32), .int (x10 + (x6 - wcn))]) (rest := []) (wr := [(wi, .inl (cI, 8000, .inl wif)), (wh, .inl (cI, 8000, .inl whf)), (wb, .inl (cI, 16000, .inl wbf)), (wc, .inl (cI, 8000, .inl wcf)), (wl, .inl (cJ, 4, .inr (.inl wlf)))]) (ws' := wd_Mo_readPart w wi wh wb wc wl wo wd wm wp cB cI cJ win won whn wpl_214 wdn wfo wmn wpn wbn wcn wat wnu wif whf wbf wcf wlf) C.call (c_Mo_fault l dC dI cB cI cJ w wi wo wh wd wm wp wb wc wl  win won whn wpl wdn wfo wmn wpn wbn wcn wat wnu (3 : Int32) (x10 + (x6 - wcn)) hc214) (cwV 2 hts (gd_V w_460 w_461 w_462 w_357 w_463) rfl rfl rfl ⟨rfl, hd_Mo_fault⟩ ⟨Nat.le_of_ble_eq_true rfl, Nat.le_of_ble_eq_true rfl⟩) rfl hl.1 rfl (Nat.le_of_ble_eq_true rfl) d_Mo_readPart_214 ⟨Nat.le_of_ble_eq_true rfl, Nat.le_of_ble_eq_true rfl⟩ hZ hK hP hD hS hA 7 0 rfl rfl [0] [1, 2, 3, 4, 5] [5, 0, 1, 2, 3, 4] rfl rfl rfl rfl (by decide) rfl rfl (fun H locs hP hD hS => ?_)
      cases hf
      exact s_iret hx hb hr hlocks hP hK hD hS d_Mo_readPart_217
noncomputable def j_Mo_readPart_29 (N : Nat) (x3 : Int32) (x4 : Int32) (x5 : Int32) (x6 : Int32) (x7 : Int32) (t0 : Int64) (win : Int32) (whn : Int32) (wpl : Int32) (wbn : Int32) (wcn : Int32) (wat : Int32) (wnu : Int32) (wif : Nat → Int32) (whf : Nat → Int32) (wbf : Nat → Int32) (wcf : Nat → Int32) (wlf : Nat → Int64)  : Option (Int32 × Int32 × Int32 × Int32 × Int32 × Int32 × (Nat → Int32) × (Nat → Int32) × (Nat → Int64)) :=
  (if (lg_cmp t0 (x4.toInt64)) ≤ 0 then (if (lg_cmp t0 ((win - (wat + (4 : Int32))).toInt64)) ≤ 0 then (if (x3 &&& (16 : Int32)) = 0 then (j_Mo_readPart_178 N x3 x5 x6 x7 t0 (wat + (4 : Int32)) ((wat + (4 : Int32)) + (t0.toInt32)) whn wpl wbn wcn ((wat + (4 : Int32)) + (t0.toInt32)) wnu wif whf wbf wcf wlf ) else bd1 (f_Mo_has (4 : Int32) win ((wat + (4 : Int32)) + (t0.toInt32))) (fun r116 => (if r116 = 0 then bd2 (f_Mo_fault (1 : Int32) win) (fun r128 wpl_128 => (some (r128, wpl_128, wbn, wcn, ((wat + (4 : Int32)) + (t0.toInt32)), wnu, wbf, wcf, wlf) : Option (Int32 × Int32 × Int32 × Int32 × Int32 × Int32 × (Nat → Int32) × (Nat → Int32) × (Nat → Int64)))) else bd1 (f_Mo_numberAt N ((wat + (4 : Int32)) + (t0.toInt32)) (4 : Int32) wif) (fun r138 => bd2 (f_Mo_sumOf N 8000 (wat + (4 : Int32)) ((wat + (4 : Int32)) + (t0.toInt32)) wlf wif) (fun r150 wlf_150 => (if (lg_cmp r138 r150) = 0 then (j_Mo_readPart_178 N x3 x5 x6 x7 t0 (wat + (4 : Int32)) ((wat + (4 : Int32)) + (t0.toInt32)) whn wpl wbn wcn (((wat + (4 : Int32)) + (t0.toInt32)) + (4 : Int32)) wnu wif whf wbf wcf wlf_150 ) else bd2 (f_Mo_fault (8 : Int32) ((wat + (4 : Int32)) + (t0.toInt32))) (fun r164 wpl_164 => (some (r164, wpl_164, wbn, wcn, ((wat + (4 : Int32)) + (t0.toInt32)), wnu, wbf, wcf, wlf_150) : Option (Int32 × Int32 × Int32 × Int32 × Int32 × Int32 × (Nat → Int32) × (Nat → Int32) × (Nat → Int64)))))))))) else bd2 (f_Mo_fault (1 : Int32) win) (fun r89 wpl_89 => (some (r89, wpl_89, wbn, wcn, (wat + (4 : Int32)), wnu, wbf, wcf, wlf) : Option (Int32 × Int32 × Int32 × Int32 × Int32 × Int32 × (Nat → Int32) × (Nat → Int32) × (Nat → Int64))))) else bd2 (f_Mo_fault (7 : Int32) wat) (fun r47 wpl_47 => (some (r47, wpl_47, wbn, wcn, wat, wnu, wbf, wcf, wlf) : Option (Int32 × Int32 × Int32 × Int32 × Int32 × Int32 × (Nat → Int32) × (Nat → Int32) × (Nat → Int64)))))
set_option maxHeartbeats 4000000 in
set_option maxRecDepth 100000 in
theorem k_Mo_readPart_29 {r_z : Int32} {wpl_z : Int32} {wbn_z : Int32} {wcn_z : Int32} {wat_z : Int32} {wnu_z : Int32} {wbf_z : Nat → Int32} {wcf_z : Nat → Int32} {wlf_z : Nat → Int64} (C : Fx p s m args meth c cd_Mo_readPart 17 R_Mo lw_g (some .int)) (hK : va_K (dC, dI) vwCl [(cB, .byte), (cI, .int), (cJ, .long)] s) (hA : ∀ q, s.heap.size ≤ q → A q) (x3 : Int32) (x4 : Int32) (x5 : Int32) (x6 : Int32) (x7 : Int32) (t0 : Int64) (win : Int32) (won : Int32) (whn : Int32) (wpl : Int32) (wdn : Int32) (wfo : Int32) (wmn : Int32) (wpn : Int32) (wbn : Int32) (wcn : Int32) (wat : Int32) (wnu : Int32) (wif : Nat → Int32) (whf : Nat → Int32) (wbf : Nat → Int32) (wcf : Nat → Int32) (wlf : Nat → Int64)  (hf : j_Mo_readPart_29 N x3 x4 x5 x6 x7 t0 win whn wpl wbn wcn wat wnu wif whf wbf wcf wlf  = some (r_z, wpl_z, wbn_z, wcn_z, wat_z, wnu_z, wbf_z, wcf_z, wlf_z)) (hP : va_P (dC, dI) vwCl (wd_Mo_readPart w wi wh wb wc wl wo wd wm wp cB cI cJ win won whn wpl wdn wfo wmn wpn wbn wcn wat wnu wif whf wbf wcf wlf) H) (hD : va_D A (wd_Mo_readPart w wi wh wb wc wl wo wd wm wp cB cI cJ win won whn wpl wdn wfo wmn wpn wbn wcn wat wnu wif whf wbf wcf wlf)) (hS : va_S A s.heap H locs) (hl : lv_has ls 17 [(0, .ref w), (3, .int x3), (4, .int x4), (5, .int x5), (6, .int x6), (7, .int x7)]) : W p l e rm_Mo_readPart s m args below meth c H locs 0 0 (MQ below (sQi (dC, dI) vwCl [(cB, .byte), (cI, .int), (cJ, .long)] A r_z (wd_Mo_readPart w wi wh wb wc wl wo wd wm wp cB cI cJ win won whn wpl_z wdn wfo wmn wpn wbn_z wcn_z wat_z wnu_z wif whf wbf_z wcf_z wlf_z)) args s 0 0 A) (F0 m 29 ls [.long t0]) := by
  obtain ⟨hx, hb, hml, hown, hts, hr, hlocks, hZ⟩ := id C
  unfold j_Mo_readPart_29 at hf
  refine lv_lstore (lv' := [(8, .long t0), (0, .ref w), (3, .int x3), (4, .int x4), (5, .int x5), (6, .int x6), (7, .int x7)]) hx hb d_Mo_readPart_29 hl (by decide) rfl (fun ls hl => ?_)
  refine lv_lload hx hb d_Mo_readPart_31 (lv_at hl 0 rfl) ?_
  refine lv_iload hx hb d_Mo_readPart_33 (lv_at hl 3 rfl) ?_
  refine lv_i2l (v := (x4.toInt64)) hx hb d_Mo_readPart_35 rfl ?_
  refine W.lcmp hx hb d_Mo_readPart_36 ?_
  refine lv_if_le (tgt := 51) hx hb d_Mo_readPart_37 (by decide) (fun c_37 => ?_) (fun c_37 => ?_)
  · have hf := br_pos c_37 hf
    refine lv_aload_n hx hb d_Mo_readPart_51 rfl (lv_at hl 1 rfl) ?_
    refine lv_dup hx hb d_Mo_readPart_52 rfl ?_
    refine va_get (D := (dC, dI)) (ci := 7) (v := .int wat) (C := R_Mo) (T := T_Mo) (N := 21) hx hb hts w_351 hown hK hP 0 rfl rfl 19 (by decide) (hts _ w_360) (fun _ h9 => h9) rfl d_Mo_readPart_53 ?_
    refine lv_iconst (v := 4) hx hb d_Mo_readPart_56 (by decide) ?_
    refine lv_iadd hx hb d_Mo_readPart_57 ?_
    refine va_put (D := (dC, dI)) (ci := 7) (v := .int (wat + (4 : Int32))) (ty := .int) (C := R_Mo) (T := T_Mo) (N := 21) hx hb hts w_351 ty_Mo ty_Mo_ok nm_Mo hown hK hP hD hS 0 rfl rfl 19 (by decide) (hts _ w_360) (fun _ h9 => h9) rfl (by decide +kernel) rfl rfl (Nat.le_of_ble_eq_true rfl) d_Mo_readPart_58 (fun H locs hP hD hS => ?_)
    have hP : va_P (dC, dI) vwCl (wd_Mo_readPart w wi wh wb wc wl wo wd wm wp cB cI cJ win won whn wpl wdn wfo wmn wpn wbn wcn (wat + (4 : Int32)) wnu wif whf wbf wcf wlf) H := hP
    have hD : va_D A (wd_Mo_readPart w wi wh wb wc wl wo wd wm wp cB cI cJ win won whn wpl wdn wfo wmn wpn wbn wcn (wat + (4 : Int32)) wnu wif whf wbf wcf wlf) := hD
    refine lv_aload_n hx hb d_Mo_readPart_61 rfl (lv_at hl 1 rfl) ?_
    refine va_get (D := (dC, dI)) (ci := 7) (v := .int (wat + (4 : Int32))) (C := R_Mo) (T := T_Mo) (N := 21) hx hb hts w_351 hown hK hP 0 rfl rfl 19 (by decide) (hts _ w_360) (fun _ h9 => h9) rfl d_Mo_readPart_62 ?_
    refine lv_istore (lv' := [(10, .int (wat + (4 : Int32))), (8, .long t0), (0, .ref w), (3, .int x3), (4, .int x4), (5, .int x5), (6, .int x6), (7, .int x7)]) hx hb d_Mo_readPart_65 hl (by decide) rfl (fun ls hl => ?_)
    refine lv_lload hx hb d_Mo_readPart_67 (lv_at hl 1 rfl) ?_
    refine lv_aload_n hx hb d_Mo_readPart_69 rfl (lv_at hl 2 rfl) ?_
    refine va_get (D := (dC, dI)) (ci := 7) (v := .int win) (C := R_Mo) (T := T_Mo) (N := 21) hx hb hts w_351 hown hK hP 0 rfl rfl 3 (by decide) (hts _ w_362) (fun _ h9 => h9) rfl d_Mo_readPart_70 ?_
    refine lv_aload_n hx hb d_Mo_readPart_73 rfl (lv_at hl 2 rfl) ?_
    refine va_get (D := (dC, dI)) (ci := 7) (v := .int (wat + (4 : Int32))) (C := R_Mo) (T := T_Mo) (N := 21) hx hb hts w_351 hown hK hP 0 rfl rfl 19 (by decide) (hts _ w_360) (fun _ h9 => h9) rfl d_Mo_readPart_74 ?_
    refine lv_isub hx hb d_Mo_readPart_77 ?_
    refine lv_i2l (v := ((win - (wat + (4 : Int32))).toInt64)) hx hb d_Mo_readPart_78 rfl ?_
    refine W.lcmp hx hb d_Mo_readPart_79 ?_
    refine lv_if_le (tgt := 93) hx hb d_Mo_readPart_80 (by decide) (fun c_80 => ?_) (fun c_80 => ?_)
    · have hf := br_pos c_80 hf
      refine lv_iload hx hb d_Mo_readPart_93 (lv_at hl 0 rfl) ?_
      refine lv_lload hx hb d_Mo_readPart_95 (lv_at hl 1 rfl) ?_
      refine lv_l2i (v := (t0.toInt32)) hx hb d_Mo_readPart_97 rfl ?_
      refine lv_iadd hx hb d_Mo_readPart_98 ?_
      refine lv_istore (lv' := [(11, .int ((wat + (4 : Int32)) + (t0.toInt32))), (10, .int (wat + (4 : Int32))), (8, .long t0), (0, .ref w), (3, .int x3), (4, .int x4), (5, .int x5), (6, .int x6), (7, .int x7)]) hx hb d_Mo_readPart_99 hl (by decide) rfl (fun ls hl => ?_)
      refine lv_aload_n hx hb d_Mo_readPart_101 rfl (lv_at hl 3 rfl) ?_
      refine lv_iload hx hb d_Mo_readPart_102 (lv_at hl 0 rfl) ?_
      refine va_put (D := (dC, dI)) (ci := 7) (v := .int ((wat + (4 : Int32)) + (t0.toInt32))) (ty := .int) (C := R_Mo) (T := T_Mo) (N := 21) hx hb hts w_351 ty_Mo ty_Mo_ok nm_Mo hown hK hP hD hS 0 rfl rfl 19 (by decide) (hts _ w_360) (fun _ h9 => h9) rfl (by decide +kernel) rfl rfl (Nat.le_of_ble_eq_true rfl) d_Mo_readPart_104 (fun H locs hP hD hS => ?_)
      have hP : va_P (dC, dI) vwCl (wd_Mo_readPart w wi wh wb wc wl wo wd wm wp cB cI cJ win won whn wpl wdn wfo wmn wpn wbn wcn ((wat + (4 : Int32)) + (t0.toInt32)) wnu wif whf wbf wcf wlf) H := hP
      have hD : va_D A (wd_Mo_readPart w wi wh wb wc wl wo wd wm wp cB cI cJ win won whn wpl wdn wfo wmn wpn wbn wcn ((wat + (4 : Int32)) + (t0.toInt32)) wnu wif whf wbf wcf wlf) := hD
      refine lv_iload_n hx hb d_Mo_readPart_107 rfl (lv_at hl 4 rfl) ?_
      refine lv_bipush (v := 16) hx hb d_Mo_readPart_108 (by decide) ?_
      refine lv_iand hx hb d_Mo_readPart_110 ?_
      refine lv_if_eq (tgt := 178) hx hb d_Mo_readPart_111 (by decide) (fun c_111 => ?_) (fun c_111 => ?_)
      · have hf := br_pos c_111 hf
        exact k_Mo_readPart_178 C hK hA x3 x5 x6 x7 t0 (wat + (4 : Int32)) ((wat + (4 : Int32)) + (t0.toInt32)) win won whn wpl wdn wfo wmn wpn wbn wcn ((wat + (4 : Int32)) + (t0.toInt32)) wnu wif whf wbf wcf wlf  hf hP hD hS (lv_sub hl [3, 4, 6, 7, 8, 2, 1, 0] rfl)
      · have hf := br_neg c_111 hf
        refine lv_aload_n hx hb d_Mo_readPart_114 rfl (lv_at hl 3 rfl) ?_
        refine lv_iconst (v := 4) hx hb d_Mo_readPart_115 (by decide) ?_
        obtain ⟨r116, hc116, hf⟩ := bd1_some hf
        refine s_Vi (As := [.int (4 : Int32)]) (rest := []) (wr := [(wi, .inl (cI, 8000, .inl wif)), (wh, .inl (cI, 8000, .inl whf)), (wb, .inl (cI, 16000, .inl wbf)), (wc, .inl (cI, 8000, .inl wcf)), (wl, .inl (cJ, 4, .inr (.inl wlf)))]) (ws' := wd_Mo_readPart w wi wh wb wc wl wo wd wm wp cB cI cJ win won whn wpl wdn wfo wmn wpn wbn wcn ((wat + (4 : Int32)) + (t0.toInt32)) wnu wif whf wbf wcf wlf) C.call (c_Mo_has l dC dI cB cI cJ w wi wo wh wd wm wp wb wc wl  win won whn wpl wdn wfo wmn wpn wbn wcn ((wat + (4 : Int32)) + (t0.toInt32)) wnu (4 : Int32) hc116) (cwV 1 hts (gd_V w_464 w_465 w_466 w_357 w_467) rfl rfl rfl ⟨rfl, hd_Mo_has⟩ ⟨Nat.le_of_ble_eq_true rfl, Nat.le_of_ble_eq_true rfl⟩) rfl hl.1 rfl (Nat.le_of_ble_eq_true rfl) d_Mo_readPart_116 ⟨Nat.le_of_ble_eq_true rfl, Nat.le_of_ble_eq_true rfl⟩ hZ hK hP hD hS hA 7 0 rfl rfl [0] [1, 2, 3, 4, 5] [5, 0, 1, 2, 3, 4] rfl rfl rfl rfl (by decide) rfl rfl (fun H locs hP hD hS => ?_)
        refine lv_if_ne (tgt := 132) hx hb d_Mo_readPart_119 (by decide) (fun c_119 => ?_) (fun c_119 => ?_)
        · have hf := br_neg c_119 hf
          refine lv_aload_n hx hb d_Mo_readPart_132 rfl (lv_at hl 3 rfl) ?_
          refine lv_aload_n hx hb d_Mo_readPart_133 rfl (lv_at hl 3 rfl) ?_
          refine va_get (D := (dC, dI)) (ci := 7) (v := .int ((wat + (4 : Int32)) + (t0.toInt32))) (C := R_Mo) (T := T_Mo) (N := 21) hx hb hts w_351 hown hK hP 0 rfl rfl 19 (by decide) (hts _ w_360) (fun _ h9 => h9) rfl d_Mo_readPart_134 ?_
          refine lv_iconst (v := 4) hx hb d_Mo_readPart_137 (by decide) ?_
          obtain ⟨r138, hc138, hf⟩ := bd1_some hf
          refine s_Vl (As := [.int ((wat + (4 : Int32)) + (t0.toInt32)), .int (4 : Int32)]) (rest := []) (wr := [(wh, .inl (cI, 8000, .inl whf)), (wb, .inl (cI, 16000, .inl wbf)), (wc, .inl (cI, 8000, .inl wcf)), (wl, .inl (cJ, 4, .inr (.inl wlf)))]) (ws' := wd_Mo_readPart w wi wh wb wc wl wo wd wm wp cB cI cJ win won whn wpl wdn wfo wmn wpn wbn wcn ((wat + (4 : Int32)) + (t0.toInt32)) wnu wif whf wbf wcf wlf) C.call (c_Mo_numberAt l dC dI cB cI cJ w wi wo wh wd wm wp wb wc wl  win won whn wpl wdn wfo wmn wpn wbn wcn ((wat + (4 : Int32)) + (t0.toInt32)) wnu wif ((wat + (4 : Int32)) + (t0.toInt32)) (4 : Int32) hc138) (cwV 2 hts (gd_V w_468 w_469 w_470 w_357 w_471) rfl rfl rfl ⟨rfl, hd_Mo_numberAt⟩ ⟨Nat.le_of_ble_eq_true rfl, Nat.le_of_ble_eq_true rfl⟩) rfl hl.1 rfl (Nat.le_of_ble_eq_true rfl) d_Mo_readPart_138 ⟨Nat.le_of_ble_eq_true rfl, Nat.le_of_ble_eq_true rfl⟩ hZ hK hP hD hS hA 7 0 rfl rfl [0, 1] [2, 3, 4, 5] [4, 5, 0, 1, 2, 3] rfl rfl rfl rfl (by decide) rfl rfl (fun H locs hP hD hS => ?_)
          refine lv_aload_n hx hb d_Mo_readPart_141 rfl (lv_at hl 3 rfl) ?_
          refine lv_aload_n hx hb d_Mo_readPart_142 rfl (lv_at hl 3 rfl) ?_
          refine va_get (D := (dC, dI)) (ci := 7) (v := .ref wi) (C := R_Mo) (T := T_Mo) (N := 21) hx hb hts w_351 hown hK hP 0 rfl rfl 0 (by decide) (hts _ w_361) (fun _ h9 => h9) rfl d_Mo_readPart_143 ?_
          refine lv_iload hx hb d_Mo_readPart_146 (lv_at hl 1 rfl) ?_
          refine lv_iload hx hb d_Mo_readPart_148 (lv_at hl 0 rfl) ?_
          obtain ⟨r150, wlf_150, hc150, hf⟩ := bd2_some hf
          refine s_Vl (As := [.ref wi, .int (wat + (4 : Int32)), .int ((wat + (4 : Int32)) + (t0.toInt32))]) (rest := [.long r138]) (wr := [(wh, .inl (cI, 8000, .inl whf)), (wb, .inl (cI, 16000, .inl wbf)), (wc, .inl (cI, 8000, .inl wcf))]) (ws' := wd_Mo_readPart w wi wh wb wc wl wo wd wm wp cB cI cJ win won whn wpl wdn wfo wmn wpn wbn wcn ((wat + (4 : Int32)) + (t0.toInt32)) wnu wif whf wbf wcf wlf_150) C.call (c_Mo_sumOf l dC dI cB cI cJ w wl wi wi wo wh wd wm wp wb wc 8000 win won whn wpl wdn wfo wmn wpn wbn wcn ((wat + (4 : Int32)) + (t0.toInt32)) wnu wlf wif (wat + (4 : Int32)) ((wat + (4 : Int32)) + (t0.toInt32)) hc150) (cwV 3 hts (gd_V w_441 w_442 w_443 w_357 w_444) rfl rfl rfl ⟨rfl, hd_Mo_sumOf⟩ ⟨Nat.le_of_ble_eq_true rfl, Nat.le_of_ble_eq_true rfl⟩) rfl hl.1 rfl (Nat.le_of_ble_eq_true rfl) d_Mo_readPart_150 ⟨Nat.le_of_ble_eq_true rfl, Nat.le_of_ble_eq_true rfl⟩ hZ hK hP hD hS hA 7 0 rfl rfl [0, 5, 1] [2, 3, 4] [3, 5, 0, 1, 2, 4] rfl rfl rfl rfl (by decide) rfl rfl (fun H locs hP hD hS => ?_)
          refine W.lcmp hx hb d_Mo_readPart_153 ?_
          refine lv_if_eq (tgt := 168) hx hb d_Mo_readPart_154 (by decide) (fun c_154 => ?_) (fun c_154 => ?_)
          · have hf := br_pos c_154 hf
            refine lv_aload_n hx hb d_Mo_readPart_168 rfl (lv_at hl 3 rfl) ?_
            refine lv_dup hx hb d_Mo_readPart_169 rfl ?_
            refine va_get (D := (dC, dI)) (ci := 7) (v := .int ((wat + (4 : Int32)) + (t0.toInt32))) (C := R_Mo) (T := T_Mo) (N := 21) hx hb hts w_351 hown hK hP 0 rfl rfl 19 (by decide) (hts _ w_360) (fun _ h9 => h9) rfl d_Mo_readPart_170 ?_
            refine lv_iconst (v := 4) hx hb d_Mo_readPart_173 (by decide) ?_
            refine lv_iadd hx hb d_Mo_readPart_174 ?_
            refine va_put (D := (dC, dI)) (ci := 7) (v := .int (((wat + (4 : Int32)) + (t0.toInt32)) + (4 : Int32))) (ty := .int) (C := R_Mo) (T := T_Mo) (N := 21) hx hb hts w_351 ty_Mo ty_Mo_ok nm_Mo hown hK hP hD hS 0 rfl rfl 19 (by decide) (hts _ w_360) (fun _ h9 => h9) rfl (by decide +kernel) rfl rfl (Nat.le_of_ble_eq_true rfl) d_Mo_readPart_175 (fun H locs hP hD hS => ?_)
            have hP : va_P (dC, dI) vwCl (wd_Mo_readPart w wi wh wb wc wl wo wd wm wp cB cI cJ win won whn wpl wdn wfo wmn wpn wbn wcn (((wat + (4 : Int32)) + (t0.toInt32)) + (4 : Int32)) wnu wif whf wbf wcf wlf_150) H := hP
            have hD : va_D A (wd_Mo_readPart w wi wh wb wc wl wo wd wm wp cB cI cJ win won whn wpl wdn wfo wmn wpn wbn wcn (((wat + (4 : Int32)) + (t0.toInt32)) + (4 : Int32)) wnu wif whf wbf wcf wlf_150) := hD
            exact k_Mo_readPart_178 C hK hA x3 x5 x6 x7 t0 (wat + (4 : Int32)) ((wat + (4 : Int32)) + (t0.toInt32)) win won whn wpl wdn wfo wmn wpn wbn wcn (((wat + (4 : Int32)) + (t0.toInt32)) + (4 : Int32)) wnu wif whf wbf wcf wlf_150  hf hP hD hS (lv_sub hl [3, 4, 6, 7, 8, 2, 1, 0] rfl)
          · have hf := br_neg c_154 hf
            refine lv_aload_n hx hb d_Mo_readPart_157 rfl (lv_at hl 3 rfl) ?_
            refine lv_bipush (v := 8) hx hb d_Mo_readPart_158 (by decide) ?_
            refine lv_aload_n hx hb d_Mo_readPart_160 rfl (lv_at hl 3 rfl) ?_
            refine va_get (D := (dC, dI)) (ci := 7) (v := .int ((wat + (4 : Int32)) + (t0.toInt32))) (C := R_Mo) (T := T_Mo) (N := 21) hx hb hts w_351 hown hK hP 0 rfl rfl 19 (by decide) (hts _ w_360) (fun _ h9 => h9) rfl d_Mo_readPart_161 ?_
            obtain ⟨r164, wpl_164, hc164, hf⟩ := bd2_some hf
            refine s_Vi (As := [.int (8 : Int32), .int ((wat + (4 : Int32)) + (t0.toInt32))]) (rest := []) (wr := [(wi, .inl (cI, 8000, .inl wif)), (wh, .inl (cI, 8000, .inl whf)), (wb, .inl (cI, 16000, .inl wbf)), (wc, .inl (cI, 8000, .inl wcf)), (wl, .inl (cJ, 4, .inr (.inl wlf_150)))]) (ws' := wd_Mo_readPart w wi wh wb wc wl wo wd wm wp cB cI cJ win won whn wpl_164 wdn wfo wmn wpn wbn wcn ((wat + (4 : Int32)) + (t0.toInt32)) wnu wif whf wbf wcf wlf_150) C.call (c_Mo_fault l dC dI cB cI cJ w wi wo wh wd wm wp wb wc wl  win won whn wpl wdn wfo wmn wpn wbn wcn ((wat + (4 : Int32)) + (t0.toInt32)) wnu (8 : Int32) ((wat + (4 : Int32)) + (t0.toInt32)) hc164) (cwV 2 hts (gd_V w_460 w_461 w_462 w_357 w_463) rfl rfl rfl ⟨rfl, hd_Mo_fault⟩ ⟨Nat.le_of_ble_eq_true rfl, Nat.le_of_ble_eq_true rfl⟩) rfl hl.1 rfl (Nat.le_of_ble_eq_true rfl) d_Mo_readPart_164 ⟨Nat.le_of_ble_eq_true rfl, Nat.le_of_ble_eq_true rfl⟩ hZ hK hP hD hS hA 7 0 rfl rfl [0] [1, 2, 3, 4, 5] [5, 0, 1, 2, 3, 4] rfl rfl rfl rfl (by decide) rfl rfl (fun H locs hP hD hS => ?_)
            cases hf
            exact s_iret hx hb hr hlocks hP hK hD hS d_Mo_readPart_167
        · have hf := br_pos c_119 hf
          refine lv_aload_n hx hb d_Mo_readPart_122 rfl (lv_at hl 3 rfl) ?_
          refine lv_iconst (v := 1) hx hb d_Mo_readPart_123 (by decide) ?_
          refine lv_aload_n hx hb d_Mo_readPart_124 rfl (lv_at hl 3 rfl) ?_
          refine va_get (D := (dC, dI)) (ci := 7) (v := .int win) (C := R_Mo) (T := T_Mo) (N := 21) hx hb hts w_351 hown hK hP 0 rfl rfl 3 (by decide) (hts _ w_362) (fun _ h9 => h9) rfl d_Mo_readPart_125 ?_
          obtain ⟨r128, wpl_128, hc128, hf⟩ := bd2_some hf
          refine s_Vi (As := [.int (1 : Int32), .int win]) (rest := []) (wr := [(wi, .inl (cI, 8000, .inl wif)), (wh, .inl (cI, 8000, .inl whf)), (wb, .inl (cI, 16000, .inl wbf)), (wc, .inl (cI, 8000, .inl wcf)), (wl, .inl (cJ, 4, .inr (.inl wlf)))]) (ws' := wd_Mo_readPart w wi wh wb wc wl wo wd wm wp cB cI cJ win won whn wpl_128 wdn wfo wmn wpn wbn wcn ((wat + (4 : Int32)) + (t0.toInt32)) wnu wif whf wbf wcf wlf) C.call (c_Mo_fault l dC dI cB cI cJ w wi wo wh wd wm wp wb wc wl  win won whn wpl wdn wfo wmn wpn wbn wcn ((wat + (4 : Int32)) + (t0.toInt32)) wnu (1 : Int32) win hc128) (cwV 2 hts (gd_V w_460 w_461 w_462 w_357 w_463) rfl rfl rfl ⟨rfl, hd_Mo_fault⟩ ⟨Nat.le_of_ble_eq_true rfl, Nat.le_of_ble_eq_true rfl⟩) rfl hl.1 rfl (Nat.le_of_ble_eq_true rfl) d_Mo_readPart_128 ⟨Nat.le_of_ble_eq_true rfl, Nat.le_of_ble_eq_true rfl⟩ hZ hK hP hD hS hA 7 0 rfl rfl [0] [1, 2, 3, 4, 5] [5, 0, 1, 2, 3, 4] rfl rfl rfl rfl (by decide) rfl rfl (fun H locs hP hD hS => ?_)
          cases hf
          exact s_iret hx hb hr hlocks hP hK hD hS d_Mo_readPart_131
    · have hf := br_neg c_80 hf
      refine lv_aload_n hx hb d_Mo_readPart_83 rfl (lv_at hl 2 rfl) ?_
      refine lv_iconst (v := 1) hx hb d_Mo_readPart_84 (by decide) ?_
      refine lv_aload_n hx hb d_Mo_readPart_85 rfl (lv_at hl 2 rfl) ?_
      refine va_get (D := (dC, dI)) (ci := 7) (v := .int win) (C := R_Mo) (T := T_Mo) (N := 21) hx hb hts w_351 hown hK hP 0 rfl rfl 3 (by decide) (hts _ w_362) (fun _ h9 => h9) rfl d_Mo_readPart_86 ?_
      obtain ⟨r89, wpl_89, hc89, hf⟩ := bd2_some hf
      refine s_Vi (As := [.int (1 : Int32), .int win]) (rest := []) (wr := [(wi, .inl (cI, 8000, .inl wif)), (wh, .inl (cI, 8000, .inl whf)), (wb, .inl (cI, 16000, .inl wbf)), (wc, .inl (cI, 8000, .inl wcf)), (wl, .inl (cJ, 4, .inr (.inl wlf)))]) (ws' := wd_Mo_readPart w wi wh wb wc wl wo wd wm wp cB cI cJ win won whn wpl_89 wdn wfo wmn wpn wbn wcn (wat + (4 : Int32)) wnu wif whf wbf wcf wlf) C.call (c_Mo_fault l dC dI cB cI cJ w wi wo wh wd wm wp wb wc wl  win won whn wpl wdn wfo wmn wpn wbn wcn (wat + (4 : Int32)) wnu (1 : Int32) win hc89) (cwV 2 hts (gd_V w_460 w_461 w_462 w_357 w_463) rfl rfl rfl ⟨rfl, hd_Mo_fault⟩ ⟨Nat.le_of_ble_eq_true rfl, Nat.le_of_ble_eq_true rfl⟩) rfl hl.1 rfl (Nat.le_of_ble_eq_true rfl) d_Mo_readPart_89 ⟨Nat.le_of_ble_eq_true rfl, Nat.le_of_ble_eq_true rfl⟩ hZ hK hP hD hS hA 7 0 rfl rfl [0] [1, 2, 3, 4, 5] [5, 0, 1, 2, 3, 4] rfl rfl rfl rfl (by decide) rfl rfl (fun H locs hP hD hS => ?_)
      cases hf
      exact s_iret hx hb hr hlocks hP hK hD hS d_Mo_readPart_92
  · have hf := br_neg c_37 hf
    refine lv_aload_n hx hb d_Mo_readPart_40 rfl (lv_at hl 1 rfl) ?_
    refine lv_bipush (v := 7) hx hb d_Mo_readPart_41 (by decide) ?_
    refine lv_aload_n hx hb d_Mo_readPart_43 rfl (lv_at hl 1 rfl) ?_
    refine va_get (D := (dC, dI)) (ci := 7) (v := .int wat) (C := R_Mo) (T := T_Mo) (N := 21) hx hb hts w_351 hown hK hP 0 rfl rfl 19 (by decide) (hts _ w_360) (fun _ h9 => h9) rfl d_Mo_readPart_44 ?_
    obtain ⟨r47, wpl_47, hc47, hf⟩ := bd2_some hf
    refine s_Vi (As := [.int (7 : Int32), .int wat]) (rest := []) (wr := [(wi, .inl (cI, 8000, .inl wif)), (wh, .inl (cI, 8000, .inl whf)), (wb, .inl (cI, 16000, .inl wbf)), (wc, .inl (cI, 8000, .inl wcf)), (wl, .inl (cJ, 4, .inr (.inl wlf)))]) (ws' := wd_Mo_readPart w wi wh wb wc wl wo wd wm wp cB cI cJ win won whn wpl_47 wdn wfo wmn wpn wbn wcn wat wnu wif whf wbf wcf wlf) C.call (c_Mo_fault l dC dI cB cI cJ w wi wo wh wd wm wp wb wc wl  win won whn wpl wdn wfo wmn wpn wbn wcn wat wnu (7 : Int32) wat hc47) (cwV 2 hts (gd_V w_460 w_461 w_462 w_357 w_463) rfl rfl rfl ⟨rfl, hd_Mo_fault⟩ ⟨Nat.le_of_ble_eq_true rfl, Nat.le_of_ble_eq_true rfl⟩) rfl hl.1 rfl (Nat.le_of_ble_eq_true rfl) d_Mo_readPart_47 ⟨Nat.le_of_ble_eq_true rfl, Nat.le_of_ble_eq_true rfl⟩ hZ hK hP hD hS hA 7 0 rfl rfl [0] [1, 2, 3, 4, 5] [5, 0, 1, 2, 3, 4] rfl rfl rfl rfl (by decide) rfl rfl (fun H locs hP hD hS => ?_)
    cases hf
    exact s_iret hx hb hr hlocks hP hK hD hS d_Mo_readPart_50
noncomputable def j_Mo_readPart_13 (N : Nat) (x1 : Int64) (x3 : Int32) (x4 : Int32) (x5 : Int32) (x6 : Int32) (t0 : Int32) (win : Int32) (whn : Int32) (wpl : Int32) (wbn : Int32) (wcn : Int32) (wat : Int32) (wnu : Int32) (wif : Nat → Int32) (whf : Nat → Int32) (wbf : Nat → Int32) (wcf : Nat → Int32) (wlf : Nat → Int64)  : Option (Int32 × Int32 × Int32 × Int32 × Int32 × Int32 × (Nat → Int32) × (Nat → Int32) × (Nat → Int64)) :=
  (if t0 = 0 then (j_Mo_readPart_29 N x3 x4 x5 x6 t0 x1 win whn wpl wbn wcn wat wnu wif whf wbf wcf wlf ) else (j_Mo_readPart_29 N x3 x4 x5 x6 t0 (x1 - (2147483648 : Int64)) win whn wpl wbn wcn wat wnu wif whf wbf wcf wlf ))
set_option maxHeartbeats 4000000 in
set_option maxRecDepth 100000 in
theorem k_Mo_readPart_13 {r_z : Int32} {wpl_z : Int32} {wbn_z : Int32} {wcn_z : Int32} {wat_z : Int32} {wnu_z : Int32} {wbf_z : Nat → Int32} {wcf_z : Nat → Int32} {wlf_z : Nat → Int64} (C : Fx p s m args meth c cd_Mo_readPart 17 R_Mo lw_g (some .int)) (hK : va_K (dC, dI) vwCl [(cB, .byte), (cI, .int), (cJ, .long)] s) (hA : ∀ q, s.heap.size ≤ q → A q) (x1 : Int64) (x3 : Int32) (x4 : Int32) (x5 : Int32) (x6 : Int32) (t0 : Int32) (win : Int32) (won : Int32) (whn : Int32) (wpl : Int32) (wdn : Int32) (wfo : Int32) (wmn : Int32) (wpn : Int32) (wbn : Int32) (wcn : Int32) (wat : Int32) (wnu : Int32) (wif : Nat → Int32) (whf : Nat → Int32) (wbf : Nat → Int32) (wcf : Nat → Int32) (wlf : Nat → Int64)  (hf : j_Mo_readPart_13 N x1 x3 x4 x5 x6 t0 win whn wpl wbn wcn wat wnu wif whf wbf wcf wlf  = some (r_z, wpl_z, wbn_z, wcn_z, wat_z, wnu_z, wbf_z, wcf_z, wlf_z)) (hP : va_P (dC, dI) vwCl (wd_Mo_readPart w wi wh wb wc wl wo wd wm wp cB cI cJ win won whn wpl wdn wfo wmn wpn wbn wcn wat wnu wif whf wbf wcf wlf) H) (hD : va_D A (wd_Mo_readPart w wi wh wb wc wl wo wd wm wp cB cI cJ win won whn wpl wdn wfo wmn wpn wbn wcn wat wnu wif whf wbf wcf wlf)) (hS : va_S A s.heap H locs) (hl : lv_has ls 17 [(0, .ref w), (1, .long x1), (3, .int x3), (4, .int x4), (5, .int x5), (6, .int x6)]) : W p l e rm_Mo_readPart s m args below meth c H locs 0 0 (MQ below (sQi (dC, dI) vwCl [(cB, .byte), (cI, .int), (cJ, .long)] A r_z (wd_Mo_readPart w wi wh wb wc wl wo wd wm wp cB cI cJ win won whn wpl_z wdn wfo wmn wpn wbn_z wcn_z wat_z wnu_z wif whf wbf_z wcf_z wlf_z)) args s 0 0 A) (F0 m 13 ls [.int t0]) := by
  obtain ⟨hx, hb, hml, hown, hts, hr, hlocks, hZ⟩ := id C
  unfold j_Mo_readPart_13 at hf
  refine lv_istore (lv' := [(7, .int t0), (0, .ref w), (1, .long x1), (3, .int x3), (4, .int x4), (5, .int x5), (6, .int x6)]) hx hb d_Mo_readPart_13 hl (by decide) rfl (fun ls hl => ?_)
  refine lv_iload hx hb d_Mo_readPart_15 (lv_at hl 0 rfl) ?_
  refine lv_if_eq (tgt := 28) hx hb d_Mo_readPart_17 (by decide) (fun c_17 => ?_) (fun c_17 => ?_)
  · have hf := br_pos c_17 hf
    refine lv_lload_n hx hb d_Mo_readPart_28 rfl (lv_at hl 2 rfl) ?_
    exact k_Mo_readPart_29 C hK hA x3 x4 x5 x6 t0 x1 win won whn wpl wdn wfo wmn wpn wbn wcn wat wnu wif whf wbf wcf wlf  hf hP hD hS (lv_sub hl [1, 3, 4, 5, 6, 0] rfl)
  · have hf := br_neg c_17 hf
    refine lv_lload_n hx hb d_Mo_readPart_20 rfl (lv_at hl 2 rfl) ?_
    refine lv_ldc2 (v := 2147483648) hx hb hown (hts _ w_445) d_Mo_readPart_21 ?_
    refine lv_lsub hx hb d_Mo_readPart_24 ?_
    refine lv_goto (tgt := 29) hx hb d_Mo_readPart_25 (by decide) ?_
    exact k_Mo_readPart_29 C hK hA x3 x4 x5 x6 t0 (x1 - (2147483648 : Int64)) win won whn wpl wdn wfo wmn wpn wbn wcn wat wnu wif whf wbf wcf wlf  hf hP hD hS (lv_sub hl [1, 3, 4, 5, 6, 0] rfl)
noncomputable def j_Mo_readPart_0 (N : Nat) (x1 : Int64) (x3 : Int32) (x4 : Int32) (x5 : Int32) (x6 : Int32) (win : Int32) (whn : Int32) (wpl : Int32) (wbn : Int32) (wcn : Int32) (wat : Int32) (wnu : Int32) (wif : Nat → Int32) (whf : Nat → Int32) (wbf : Nat → Int32) (wcf : Nat → Int32) (wlf : Nat → Int64)  : Option (Int32 × Int32 × Int32 × Int32 × Int32 × Int32 × (Nat → Int32) × (Nat → Int32) × (Nat → Int64)) :=
  (if (lg_cmp x1 (2147483648 : Int64)) < 0 then (j_Mo_readPart_13 N x1 x3 x4 x5 x6 (0 : Int32) win whn wpl wbn wcn wat wnu wif whf wbf wcf wlf ) else (j_Mo_readPart_13 N x1 x3 x4 x5 x6 (1 : Int32) win whn wpl wbn wcn wat wnu wif whf wbf wcf wlf ))
set_option maxHeartbeats 4000000 in
set_option maxRecDepth 100000 in
theorem k_Mo_readPart_0 {r_z : Int32} {wpl_z : Int32} {wbn_z : Int32} {wcn_z : Int32} {wat_z : Int32} {wnu_z : Int32} {wbf_z : Nat → Int32} {wcf_z : Nat → Int32} {wlf_z : Nat → Int64} (C : Fx p s m args meth c cd_Mo_readPart 17 R_Mo lw_g (some .int)) (hK : va_K (dC, dI) vwCl [(cB, .byte), (cI, .int), (cJ, .long)] s) (hA : ∀ q, s.heap.size ≤ q → A q) (x1 : Int64) (x3 : Int32) (x4 : Int32) (x5 : Int32) (x6 : Int32) (win : Int32) (won : Int32) (whn : Int32) (wpl : Int32) (wdn : Int32) (wfo : Int32) (wmn : Int32) (wpn : Int32) (wbn : Int32) (wcn : Int32) (wat : Int32) (wnu : Int32) (wif : Nat → Int32) (whf : Nat → Int32) (wbf : Nat → Int32) (wcf : Nat → Int32) (wlf : Nat → Int64)  (hf : j_Mo_readPart_0 N x1 x3 x4 x5 x6 win whn wpl wbn wcn wat wnu wif whf wbf wcf wlf  = some (r_z, wpl_z, wbn_z, wcn_z, wat_z, wnu_z, wbf_z, wcf_z, wlf_z)) (hP : va_P (dC, dI) vwCl (wd_Mo_readPart w wi wh wb wc wl wo wd wm wp cB cI cJ win won whn wpl wdn wfo wmn wpn wbn wcn wat wnu wif whf wbf wcf wlf) H) (hD : va_D A (wd_Mo_readPart w wi wh wb wc wl wo wd wm wp cB cI cJ win won whn wpl wdn wfo wmn wpn wbn wcn wat wnu wif whf wbf wcf wlf)) (hS : va_S A s.heap H locs) (hl : lv_has ls 17 [(0, .ref w), (1, .long x1), (3, .int x3), (4, .int x4), (5, .int x5), (6, .int x6)]) : W p l e rm_Mo_readPart s m args below meth c H locs 0 0 (MQ below (sQi (dC, dI) vwCl [(cB, .byte), (cI, .int), (cJ, .long)] A r_z (wd_Mo_readPart w wi wh wb wc wl wo wd wm wp cB cI cJ win won whn wpl_z wdn wfo wmn wpn wbn_z wcn_z wat_z wnu_z wif whf wbf_z wcf_z wlf_z)) args s 0 0 A) (F0 m 0 ls []) := by
  obtain ⟨hx, hb, hml, hown, hts, hr, hlocks, hZ⟩ := id C
  unfold j_Mo_readPart_0 at hf
  refine lv_lload_n hx hb d_Mo_readPart_0 rfl (lv_at hl 1 rfl) ?_
  refine lv_ldc2 (v := 2147483648) hx hb hown (hts _ w_445) d_Mo_readPart_1 ?_
  refine W.lcmp hx hb d_Mo_readPart_4 ?_
  refine lv_if_lt (tgt := 12) hx hb d_Mo_readPart_5 (by decide) (fun c_5 => ?_) (fun c_5 => ?_)
  · have hf := br_pos c_5 hf
    refine lv_iconst (v := 0) hx hb d_Mo_readPart_12 (by decide) ?_
    exact k_Mo_readPart_13 C hK hA x1 x3 x4 x5 x6 (0 : Int32) win won whn wpl wdn wfo wmn wpn wbn wcn wat wnu wif whf wbf wcf wlf  hf hP hD hS (lv_sub hl [0, 1, 2, 3, 4, 5] rfl)
  · have hf := br_neg c_5 hf
    refine lv_iconst (v := 1) hx hb d_Mo_readPart_8 (by decide) ?_
    refine lv_goto (tgt := 13) hx hb d_Mo_readPart_9 (by decide) ?_
    exact k_Mo_readPart_13 C hK hA x1 x3 x4 x5 x6 (1 : Int32) win won whn wpl wdn wfo wmn wpn wbn wcn wat wnu wif whf wbf wcf wlf  hf hP hD hS (lv_sub hl [0, 1, 2, 3, 4, 5] rfl)
end
noncomputable abbrev f_Mo_readPart (N : Nat) (x1 : Int64) (x3 : Int32) (x4 : Int32) (x5 : Int32) (x6 : Int32) (win : Int32) (whn : Int32) (wpl : Int32) (wbn : Int32) (wcn : Int32) (wat : Int32) (wnu : Int32) (wif : Nat → Int32) (whf : Nat → Int32) (wbf : Nat → Int32) (wcf : Nat → Int32) (wlf : Nat → Int64) : Option (Int32 × Int32 × Int32 × Int32 × Int32 × Int32 × (Nat → Int32) × (Nat → Int32) × (Nat → Int64)) := j_Mo_readPart_0 N x1 x3 x4 x5 x6 win whn wpl wbn wcn wat wnu wif whf wbf wcf wlf
set_option maxRecDepth 100000 in
theorem c_Mo_readPart {N : Nat} (l : Launch) (dC : Nat → ClassId) (dI : Nat → Nat → Nat) (cB cI cJ : ClassId) (w wi wh wb wc wl wo wd wm wp : Nat) (win : Int32) (won : Int32) (whn : Int32) (wpl : Int32) (wdn : Int32) (wfo : Int32) (wmn : Int32) (wpn : Int32) (wbn : Int32) (wcn : Int32) (wat : Int32) (wnu : Int32) (wif : Nat → Int32) (whf : Nat → Int32) (wbf : Nat → Int32) (wcf : Nat → Int32) (wlf : Nat → Int64) (x1 : Int64) (x3 : Int32) (x4 : Int32) (x5 : Int32) (x6 : Int32) {r_z : Int32} {wpl_z : Int32} {wbn_z : Int32} {wcn_z : Int32} {wat_z : Int32} {wnu_z : Int32} {wbf_z : Nat → Int32} {wcf_z : Nat → Int32} {wlf_z : Nat → Int64} (hf : f_Mo_readPart N x1 x3 x4 x5 x6 win whn wpl wbn wcn wat wnu wif whf wbf wcf wlf = some (r_z, wpl_z, wbn_z, wcn_z, wat_z, wnu_z, wbf_z, wcf_z, wlf_z)) : MetI l y_Mo_readPart ws_Mo_readPart rm_Mo_readPart (dC, dI) vwCl [(cB, .byte), (cI, .int), (cJ, .long)] [.ref w, .long x1, .int x3, .int x4, .int x5, .int x6] (wd_Mo_readPart w wi wh wb wc wl wo wd wm wp cB cI cJ win won whn wpl wdn wfo wmn wpn wbn wcn wat wnu wif whf wbf wcf wlf) r_z (wd_Mo_readPart w wi wh wb wc wl wo wd wm wp cB cI cJ win won whn wpl_z wdn wfo wmn wpn wbn_z wcn_z wat_z wnu_z wif whf wbf_z wcf_z wlf_z) 0 0 :=
  s_ofi (bytes := cd_Mo_readPart) (maxL := 17) (ret := (some .int)) (by decide) rfl (Nat.le_of_ble_eq_true rfl) (fun p e s m below meth c A ls C hK hA hP hD hS hl => k_Mo_readPart_0 C hK hA x1 x3 x4 x5 x6 win won whn wpl wdn wfo wmn wpn wbn wcn wat wnu wif whf wbf wcf wlf hf hP hD hS (lv_sub hl [0, 1, 2, 3, 4, 5] rfl))

abbrev wd_Mo_readFrame (w wi wh wb wc wl wo wd wm wp : Nat) (cB cI cJ : ClassId) (win : Int32) (won : Int32) (whn : Int32) (wpl : Int32) (wdn : Int32) (wfo : Int32) (wmn : Int32) (wpn : Int32) (wbn : Int32) (wcn : Int32) (wat : Int32) (wnu : Int32) (wif : Nat → Int32) (whf : Nat → Int32) (wbf : Nat → Int32) (wcf : Nat → Int32) (wlf : Nat → Int64) : va_W := [(w, .inr (7, [.ref wi, .ref wo, .ref wh, .int win, .int won, .int whn, .int wpl, .ref wd, .int wdn, .int wfo, .ref wm, .int wmn, .ref wp, .int wpn, .ref wb, .int wbn, .ref wc, .int wcn, .ref wl, .int wat, .int wnu])), (wi, .inl (cI, 8000, .inl wif)), (wh, .inl (cI, 8000, .inl whf)), (wb, .inl (cI, 16000, .inl wbf)), (wc, .inl (cI, 8000, .inl wcf)), (wl, .inl (cJ, 4, .inr (.inl wlf)))]
abbrev rm_Mo_readFrame : Room := { frames := 3, cells := 0, slots := 0, locals := 97 }
section
variable {p : Program} {l : Launch} {e : Env} {s : State} {m : MethodId} {args : Array Value} {below : List Frame} {meth : Method} {c : Code} {dC : Nat → ClassId} {dI : Nat → Nat → Nat} {A : Nat → Prop} {cB cI cJ : ClassId} {H : Heap} {locs : List Loc} {ls : Array Slot} {N : Nat} {w wi wh wb wc wl wo wd wm wp : Nat}
noncomputable def j_Mo_readFrame_120 (wbn : Int32) (wcn : Int32) (wat : Int32) (wnu : Int32) (wbf : Nat → Int32) (wcf : Nat → Int32) (wlf : Nat → Int64)  : Option (Int32 × Int32 × Int32 × Int32 × Int32 × Int32 × (Nat → Int32) × (Nat → Int32) × (Nat → Int64)) :=
  bd2 (f_Mo_fault (5 : Int32) wat) (fun r126 wpl_126 => (some (r126, wpl_126, wbn, wcn, wat, wnu, wbf, wcf, wlf) : Option (Int32 × Int32 × Int32 × Int32 × Int32 × Int32 × (Nat → Int32) × (Nat → Int32) × (Nat → Int64))))
set_option maxHeartbeats 4000000 in
set_option maxRecDepth 100000 in
theorem k_Mo_readFrame_120 {r_z : Int32} {wpl_z : Int32} {wbn_z : Int32} {wcn_z : Int32} {wat_z : Int32} {wnu_z : Int32} {wbf_z : Nat → Int32} {wcf_z : Nat → Int32} {wlf_z : Nat → Int64} (C : Fx p s m args meth c cd_Mo_readFrame 11 R_Mo lw_g (some .int)) (hK : va_K (dC, dI) vwCl [(cB, .byte), (cI, .int), (cJ, .long)] s) (hA : ∀ q, s.heap.size ≤ q → A q) (win : Int32) (won : Int32) (whn : Int32) (wpl : Int32) (wdn : Int32) (wfo : Int32) (wmn : Int32) (wpn : Int32) (wbn : Int32) (wcn : Int32) (wat : Int32) (wnu : Int32) (wif : Nat → Int32) (whf : Nat → Int32) (wbf : Nat → Int32) (wcf : Nat → Int32) (wlf : Nat → Int64)  (hf : j_Mo_readFrame_120 wbn wcn wat wnu wbf wcf wlf  = some (r_z, wpl_z, wbn_z, wcn_z, wat_z, wnu_z, wbf_z, wcf_z, wlf_z)) (hP : va_P (dC, dI) vwCl (wd_Mo_readFrame w wi wh wb wc wl wo wd wm wp cB cI cJ win won whn wpl wdn wfo wmn wpn wbn wcn wat wnu wif whf wbf wcf wlf) H) (hD : va_D A (wd_Mo_readFrame w wi wh wb wc wl wo wd wm wp cB cI cJ win won whn wpl wdn wfo wmn wpn wbn wcn wat wnu wif whf wbf wcf wlf)) (hS : va_S A s.heap H locs) (hl : lv_has ls 11 [(0, .ref w)]) : W p l e rm_Mo_readFrame s m args below meth c H locs 0 0 (MQ below (sQi (dC, dI) vwCl [(cB, .byte), (cI, .int), (cJ, .long)] A r_z (wd_Mo_readFrame w wi wh wb wc wl wo wd wm wp cB cI cJ win won whn wpl_z wdn wfo wmn wpn wbn_z wcn_z wat_z wnu_z wif whf wbf_z wcf_z wlf_z)) args s 0 0 A) (F0 m 120 ls []) := by
  obtain ⟨hx, hb, hml, hown, hts, hr, hlocks, hZ⟩ := id C
  unfold j_Mo_readFrame_120 at hf
  refine lv_aload_n hx hb d_Mo_readFrame_120 rfl (lv_at hl 0 rfl) ?_
  refine lv_iconst (v := 5) hx hb d_Mo_readFrame_121 (by decide) ?_
  refine lv_aload_n hx hb d_Mo_readFrame_122 rfl (lv_at hl 0 rfl) ?_
  refine va_get (D := (dC, dI)) (ci := 7) (v := .int wat) (C := R_Mo) (T := T_Mo) (N := 21) hx hb hts w_351 hown hK hP 0 rfl rfl 19 (by decide) (hts _ w_360) (fun _ h9 => h9) rfl d_Mo_readFrame_123 ?_
  obtain ⟨r126, wpl_126, hc126, hf⟩ := bd2_some hf
  refine s_Vi (As := [.int (5 : Int32), .int wat]) (rest := []) (wr := [(wi, .inl (cI, 8000, .inl wif)), (wh, .inl (cI, 8000, .inl whf)), (wb, .inl (cI, 16000, .inl wbf)), (wc, .inl (cI, 8000, .inl wcf)), (wl, .inl (cJ, 4, .inr (.inl wlf)))]) (ws' := wd_Mo_readFrame w wi wh wb wc wl wo wd wm wp cB cI cJ win won whn wpl_126 wdn wfo wmn wpn wbn wcn wat wnu wif whf wbf wcf wlf) C.call (c_Mo_fault l dC dI cB cI cJ w wi wo wh wd wm wp wb wc wl  win won whn wpl wdn wfo wmn wpn wbn wcn wat wnu (5 : Int32) wat hc126) (cwV 2 hts (gd_V w_460 w_461 w_462 w_357 w_463) rfl rfl rfl ⟨rfl, hd_Mo_fault⟩ ⟨Nat.le_of_ble_eq_true rfl, Nat.le_of_ble_eq_true rfl⟩) rfl hl.1 rfl (Nat.le_of_ble_eq_true rfl) d_Mo_readFrame_126 ⟨Nat.le_of_ble_eq_true rfl, Nat.le_of_ble_eq_true rfl⟩ hZ hK hP hD hS hA 7 0 rfl rfl [0] [1, 2, 3, 4, 5] [5, 0, 1, 2, 3, 4] rfl rfl rfl rfl (by decide) rfl rfl (fun H locs hP hD hS => ?_)
  cases hf
  exact s_iret hx hb hr hlocks hP hK hD hS d_Mo_readFrame_129
noncomputable def j_Mo_readFrame_445 (N : Nat) (x3 : Int32) (x5 : Int32) (x6 : Int32) (wpl : Int32) (wbn : Int32) (wcn : Int32) (wat : Int32) (wnu : Int32) (wif : Nat → Int32) (wbf : Nat → Int32) (wcf : Nat → Int32) (wlf : Nat → Int64)  : Option (Int32 × Int32 × Int32 × Int32 × Int32 × Int32 × (Nat → Int32) × (Nat → Int32) × (Nat → Int64)) :=
  (if (x3 &&& (8 : Int32)) = 0 then (some ((0 : Int32), wpl, wbn, wcn, wat, wnu, wbf, wcf, wlf) : Option (Int32 × Int32 × Int32 × Int32 × Int32 × Int32 × (Nat → Int32) × (Nat → Int32) × (Nat → Int64))) else bd1 (f_Mo_numberAt N x5 (8 : Int32) wif) (fun r457 => (if (lg_cmp r457 ((wcn - x6).toInt64)) = 0 then (some ((0 : Int32), wpl, wbn, wcn, wat, wnu, wbf, wcf, wlf) : Option (Int32 × Int32 × Int32 × Int32 × Int32 × Int32 × (Nat → Int32) × (Nat → Int32) × (Nat → Int64))) else bd2 (f_Mo_fault (11 : Int32) x5) (fun r477 wpl_477 => (some (r477, wpl_477, wbn, wcn, wat, wnu, wbf, wcf, wlf) : Option (Int32 × Int32 × Int32 × Int32 × Int32 × Int32 × (Nat → Int32) × (Nat → Int32) × (Nat → Int64)))))))
set_option maxHeartbeats 4000000 in
set_option maxRecDepth 100000 in
theorem k_Mo_readFrame_445 {r_z : Int32} {wpl_z : Int32} {wbn_z : Int32} {wcn_z : Int32} {wat_z : Int32} {wnu_z : Int32} {wbf_z : Nat → Int32} {wcf_z : Nat → Int32} {wlf_z : Nat → Int64} (C : Fx p s m args meth c cd_Mo_readFrame 11 R_Mo lw_g (some .int)) (hK : va_K (dC, dI) vwCl [(cB, .byte), (cI, .int), (cJ, .long)] s) (hA : ∀ q, s.heap.size ≤ q → A q) (x3 : Int32) (x5 : Int32) (x6 : Int32) (win : Int32) (won : Int32) (whn : Int32) (wpl : Int32) (wdn : Int32) (wfo : Int32) (wmn : Int32) (wpn : Int32) (wbn : Int32) (wcn : Int32) (wat : Int32) (wnu : Int32) (wif : Nat → Int32) (whf : Nat → Int32) (wbf : Nat → Int32) (wcf : Nat → Int32) (wlf : Nat → Int64)  (hf : j_Mo_readFrame_445 N x3 x5 x6 wpl wbn wcn wat wnu wif wbf wcf wlf  = some (r_z, wpl_z, wbn_z, wcn_z, wat_z, wnu_z, wbf_z, wcf_z, wlf_z)) (hP : va_P (dC, dI) vwCl (wd_Mo_readFrame w wi wh wb wc wl wo wd wm wp cB cI cJ win won whn wpl wdn wfo wmn wpn wbn wcn wat wnu wif whf wbf wcf wlf) H) (hD : va_D A (wd_Mo_readFrame w wi wh wb wc wl wo wd wm wp cB cI cJ win won whn wpl wdn wfo wmn wpn wbn wcn wat wnu wif whf wbf wcf wlf)) (hS : va_S A s.heap H locs) (hl : lv_has ls 11 [(0, .ref w), (3, .int x3), (5, .int x5), (6, .int x6)]) : W p l e rm_Mo_readFrame s m args below meth c H locs 0 0 (MQ below (sQi (dC, dI) vwCl [(cB, .byte), (cI, .int), (cJ, .long)] A r_z (wd_Mo_readFrame w wi wh wb wc wl wo wd wm wp cB cI cJ win won whn wpl_z wdn wfo wmn wpn wbn_z wcn_z wat_z wnu_z wif whf wbf_z wcf_z wlf_z)) args s 0 0 A) (F0 m 445 ls []) := by
  obtain ⟨hx, hb, hml, hown, hts, hr, hlocks, hZ⟩ := id C
  unfold j_Mo_readFrame_445 at hf
  refine lv_iload_n hx hb d_Mo_readFrame_445 rfl (lv_at hl 1 rfl) ?_
  refine lv_bipush (v := 8) hx hb d_Mo_readFrame_446 (by decide) ?_
  refine lv_iand hx hb d_Mo_readFrame_448 ?_
  refine lv_if_eq (tgt := 483) hx hb d_Mo_readFrame_449 (by decide) (fun c_449 => ?_) (fun c_449 => ?_)
  · have hf := br_pos c_449 hf
    refine lv_iconst (v := 0) hx hb d_Mo_readFrame_483 (by decide) ?_
    cases hf
    exact s_iret hx hb hr hlocks hP hK hD hS d_Mo_readFrame_484
  · have hf := br_neg c_449 hf
    refine lv_aload_n hx hb d_Mo_readFrame_452 rfl (lv_at hl 0 rfl) ?_
    refine lv_iload hx hb d_Mo_readFrame_453 (lv_at hl 2 rfl) ?_
    refine lv_bipush (v := 8) hx hb d_Mo_readFrame_455 (by decide) ?_
    obtain ⟨r457, hc457, hf⟩ := bd1_some hf
    refine s_Vl (As := [.int x5, .int (8 : Int32)]) (rest := []) (wr := [(wh, .inl (cI, 8000, .inl whf)), (wb, .inl (cI, 16000, .inl wbf)), (wc, .inl (cI, 8000, .inl wcf)), (wl, .inl (cJ, 4, .inr (.inl wlf)))]) (ws' := wd_Mo_readFrame w wi wh wb wc wl wo wd wm wp cB cI cJ win won whn wpl wdn wfo wmn wpn wbn wcn wat wnu wif whf wbf wcf wlf) C.call (c_Mo_numberAt l dC dI cB cI cJ w wi wo wh wd wm wp wb wc wl  win won whn wpl wdn wfo wmn wpn wbn wcn wat wnu wif x5 (8 : Int32) hc457) (cwV 2 hts (gd_V w_468 w_469 w_470 w_357 w_471) rfl rfl rfl ⟨rfl, hd_Mo_numberAt⟩ ⟨Nat.le_of_ble_eq_true rfl, Nat.le_of_ble_eq_true rfl⟩) rfl hl.1 rfl (Nat.le_of_ble_eq_true rfl) d_Mo_readFrame_457 ⟨Nat.le_of_ble_eq_true rfl, Nat.le_of_ble_eq_true rfl⟩ hZ hK hP hD hS hA 7 0 rfl rfl [0, 1] [2, 3, 4, 5] [4, 5, 0, 1, 2, 3] rfl rfl rfl rfl (by decide) rfl rfl (fun H locs hP hD hS => ?_)
    refine lv_aload_n hx hb d_Mo_readFrame_460 rfl (lv_at hl 0 rfl) ?_
    refine va_get (D := (dC, dI)) (ci := 7) (v := .int wcn) (C := R_Mo) (T := T_Mo) (N := 21) hx hb hts w_351 hown hK hP 0 rfl rfl 17 (by decide) (hts _ w_450) (fun _ h9 => h9) rfl d_Mo_readFrame_461 ?_
    refine lv_iload hx hb d_Mo_readFrame_464 (lv_at hl 3 rfl) ?_
    refine lv_isub hx hb d_Mo_readFrame_466 ?_
    refine lv_i2l (v := ((wcn - x6).toInt64)) hx hb d_Mo_readFrame_467 rfl ?_
    refine W.lcmp hx hb d_Mo_readFrame_468 ?_
    refine lv_if_eq (tgt := 483) hx hb d_Mo_readFrame_469 (by decide) (fun c_469 => ?_) (fun c_469 => ?_)
    · have hf := br_pos c_469 hf
      refine lv_iconst (v := 0) hx hb d_Mo_readFrame_483 (by decide) ?_
      cases hf
      exact s_iret hx hb hr hlocks hP hK hD hS d_Mo_readFrame_484
    · have hf := br_neg c_469 hf
      refine lv_aload_n hx hb d_Mo_readFrame_472 rfl (lv_at hl 0 rfl) ?_
      refine lv_bipush (v := 11) hx hb d_Mo_readFrame_473 (by decide) ?_
      refine lv_iload hx hb d_Mo_readFrame_475 (lv_at hl 2 rfl) ?_
      obtain ⟨r477, wpl_477, hc477, hf⟩ := bd2_some hf
      refine s_Vi (As := [.int (11 : Int32), .int x5]) (rest := []) (wr := [(wi, .inl (cI, 8000, .inl wif)), (wh, .inl (cI, 8000, .inl whf)), (wb, .inl (cI, 16000, .inl wbf)), (wc, .inl (cI, 8000, .inl wcf)), (wl, .inl (cJ, 4, .inr (.inl wlf)))]) (ws' := wd_Mo_readFrame w wi wh wb wc wl wo wd wm wp cB cI cJ win won whn wpl_477 wdn wfo wmn wpn wbn wcn wat wnu wif whf wbf wcf wlf) C.call (c_Mo_fault l dC dI cB cI cJ w wi wo wh wd wm wp wb wc wl  win won whn wpl wdn wfo wmn wpn wbn wcn wat wnu (11 : Int32) x5 hc477) (cwV 2 hts (gd_V w_460 w_461 w_462 w_357 w_463) rfl rfl rfl ⟨rfl, hd_Mo_fault⟩ ⟨Nat.le_of_ble_eq_true rfl, Nat.le_of_ble_eq_true rfl⟩) rfl hl.1 rfl (Nat.le_of_ble_eq_true rfl) d_Mo_readFrame_477 ⟨Nat.le_of_ble_eq_true rfl, Nat.le_of_ble_eq_true rfl⟩ hZ hK hP hD hS hA 7 0 rfl rfl [0] [1, 2, 3, 4, 5] [5, 0, 1, 2, 3, 4] rfl rfl rfl rfl (by decide) rfl rfl (fun H locs hP hD hS => ?_)
      refine lv_goto (tgt := 484) hx hb d_Mo_readFrame_480 (by decide) ?_
      cases hf
      exact s_iret hx hb hr hlocks hP hK hD hS d_Mo_readFrame_484
noncomputable def j_Mo_readFrame_367 (x7 : Int32) (t0 : Int32) (wpl : Int32) (wbn : Int32) (wcn : Int32) (wnu : Int32) (wbf : Nat → Int32) (wcf : Nat → Int32) (wlf : Nat → Int64) (kh262 : Int32 → Int32 → Int32 → Int32 → Int32 → Int32 → (Nat → Int32) → (Nat → Int32) → (Nat → Int64) → Option (Int32 × Int32 × Int32 × Int32 × Int32 × Int32 × (Nat → Int32) × (Nat → Int32) × (Nat → Int64))) : Option (Int32 × Int32 × Int32 × Int32 × Int32 × Int32 × (Nat → Int32) × (Nat → Int32) × (Nat → Int64)) :=
  (kh262 x7 wpl wbn wcn t0 wnu wbf wcf wlf)
set_option maxHeartbeats 4000000 in
set_option maxRecDepth 100000 in
theorem k_Mo_readFrame_367 {r_z : Int32} {wpl_z : Int32} {wbn_z : Int32} {wcn_z : Int32} {wat_z : Int32} {wnu_z : Int32} {wbf_z : Nat → Int32} {wcf_z : Nat → Int32} {wlf_z : Nat → Int64} (C : Fx p s m args meth c cd_Mo_readFrame 11 R_Mo lw_g (some .int)) (hK : va_K (dC, dI) vwCl [(cB, .byte), (cI, .int), (cJ, .long)] s) (hA : ∀ q, s.heap.size ≤ q → A q) (x1 : Int32) (x3 : Int32) (x4 : Int32) (x5 : Int32) (x6 : Int32) (x7 : Int32) (t0 : Int32) (win : Int32) (won : Int32) (whn : Int32) (wpl : Int32) (wdn : Int32) (wfo : Int32) (wmn : Int32) (wpn : Int32) (wbn : Int32) (wcn : Int32) (wat : Int32) (wnu : Int32) (wif : Nat → Int32) (whf : Nat → Int32) (wbf : Nat → Int32) (wcf : Nat → Int32) (wlf : Nat → Int64) (kh262 : Int32 → Int32 → Int32 → Int32 → Int32 → Int32 → (Nat → Int32) → (Nat → Int32) → (Nat → Int64) → Option (Int32 × Int32 × Int32 × Int32 × Int32 × Int32 × (Nat → Int32) × (Nat → Int32) × (Nat → Int64))) (ih262 : ∀ (x7 : Int32) (wpl : Int32) (wbn : Int32) (wcn : Int32) (wat : Int32) (wnu : Int32) (wbf : Nat → Int32) (wcf : Nat → Int32) (wlf : Nat → Int64), kh262 x7 wpl wbn wcn wat wnu wbf wcf wlf = some (r_z, wpl_z, wbn_z, wcn_z, wat_z, wnu_z, wbf_z, wcf_z, wlf_z) → ∀ (H : Heap) (locs : List Loc), va_P (dC, dI) vwCl (wd_Mo_readFrame w wi wh wb wc wl wo wd wm wp cB cI cJ win won whn wpl wdn wfo wmn wpn wbn wcn wat wnu wif whf wbf wcf wlf) H → va_D A (wd_Mo_readFrame w wi wh wb wc wl wo wd wm wp cB cI cJ win won whn wpl wdn wfo wmn wpn wbn wcn wat wnu wif whf wbf wcf wlf) → va_S A s.heap H locs → ∀ (ls : Array Slot), lv_has ls 11 [(0, .ref w), (1, .int x1), (3, .int x3), (4, .int x4), (5, .int x5), (6, .int x6), (7, .int x7)] → W p l e rm_Mo_readFrame s m args below meth c H locs 0 0 (MQ below (sQi (dC, dI) vwCl [(cB, .byte), (cI, .int), (cJ, .long)] A r_z (wd_Mo_readFrame w wi wh wb wc wl wo wd wm wp cB cI cJ win won whn wpl_z wdn wfo wmn wpn wbn_z wcn_z wat_z wnu_z wif whf wbf_z wcf_z wlf_z)) args s 0 0 A) (F0 m 262 ls [])) (hf : j_Mo_readFrame_367 x7 t0 wpl wbn wcn wnu wbf wcf wlf kh262 = some (r_z, wpl_z, wbn_z, wcn_z, wat_z, wnu_z, wbf_z, wcf_z, wlf_z)) (hP : va_P (dC, dI) vwCl (wd_Mo_readFrame w wi wh wb wc wl wo wd wm wp cB cI cJ win won whn wpl wdn wfo wmn wpn wbn wcn wat wnu wif whf wbf wcf wlf) H) (hD : va_D A (wd_Mo_readFrame w wi wh wb wc wl wo wd wm wp cB cI cJ win won whn wpl wdn wfo wmn wpn wbn wcn wat wnu wif whf wbf wcf wlf)) (hS : va_S A s.heap H locs) (hl : lv_has ls 11 [(0, .ref w), (1, .int x1), (3, .int x3), (4, .int x4), (5, .int x5), (6, .int x6), (7, .int x7)]) : W p l e rm_Mo_readFrame s m args below meth c H locs 0 0 (MQ below (sQi (dC, dI) vwCl [(cB, .byte), (cI, .int), (cJ, .long)] A r_z (wd_Mo_readFrame w wi wh wb wc wl wo wd wm wp cB cI cJ win won whn wpl_z wdn wfo wmn wpn wbn_z wcn_z wat_z wnu_z wif whf wbf_z wcf_z wlf_z)) args s 0 0 A) (F0 m 367 ls [.int t0, .ref w]) := by
  obtain ⟨hx, hb, hml, hown, hts, hr, hlocks, hZ⟩ := id C
  unfold j_Mo_readFrame_367 at hf
  refine va_put (D := (dC, dI)) (ci := 7) (v := .int t0) (ty := .int) (C := R_Mo) (T := T_Mo) (N := 21) hx hb hts w_351 ty_Mo ty_Mo_ok nm_Mo hown hK hP hD hS 0 rfl rfl 19 (by decide) (hts _ w_360) (fun _ h9 => h9) rfl (by decide +kernel) rfl rfl (Nat.le_of_ble_eq_true rfl) d_Mo_readFrame_367 (fun H locs hP hD hS => ?_)
  have hP : va_P (dC, dI) vwCl (wd_Mo_readFrame w wi wh wb wc wl wo wd wm wp cB cI cJ win won whn wpl wdn wfo wmn wpn wbn wcn t0 wnu wif whf wbf wcf wlf) H := hP
  have hD : va_D A (wd_Mo_readFrame w wi wh wb wc wl wo wd wm wp cB cI cJ win won whn wpl wdn wfo wmn wpn wbn wcn t0 wnu wif whf wbf wcf wlf) := hD
  refine lv_goto (tgt := 262) hx hb d_Mo_readFrame_370 (by decide) ?_
  exact ih262 x7 wpl wbn wcn t0 wnu wbf wcf wlf hf _ _ hP hD hS _ (lv_sub hl [0, 1, 2, 3, 4, 5, 6] rfl)
noncomputable def j_Mo_readFrame_338 (x7 : Int32) (t0 : Int32) (wpl : Int32) (wbn : Int32) (wcn : Int32) (wat : Int32) (wnu : Int32) (wbf : Nat → Int32) (wcf : Nat → Int32) (wlf : Nat → Int64) (kh262 : Int32 → Int32 → Int32 → Int32 → Int32 → Int32 → (Nat → Int32) → (Nat → Int32) → (Nat → Int64) → Option (Int32 × Int32 × Int32 × Int32 × Int32 × Int32 × (Nat → Int32) × (Nat → Int32) × (Nat → Int64))) : Option (Int32 × Int32 × Int32 × Int32 × Int32 × Int32 × (Nat → Int32) × (Nat → Int32) × (Nat → Int64)) :=
  (if t0 ≤ 0 then (if x7 = 0 then (j_Mo_readFrame_367 x7 (wat + (4 : Int32)) wpl wbn wcn wnu wbf wcf wlf kh262) else (j_Mo_readFrame_367 x7 wat wpl wbn wcn wnu wbf wcf wlf kh262)) else (some (t0, wpl, wbn, wcn, wat, wnu, wbf, wcf, wlf) : Option (Int32 × Int32 × Int32 × Int32 × Int32 × Int32 × (Nat → Int32) × (Nat → Int32) × (Nat → Int64))))
set_option maxHeartbeats 4000000 in
set_option maxRecDepth 100000 in
theorem k_Mo_readFrame_338 {r_z : Int32} {wpl_z : Int32} {wbn_z : Int32} {wcn_z : Int32} {wat_z : Int32} {wnu_z : Int32} {wbf_z : Nat → Int32} {wcf_z : Nat → Int32} {wlf_z : Nat → Int64} (C : Fx p s m args meth c cd_Mo_readFrame 11 R_Mo lw_g (some .int)) (hK : va_K (dC, dI) vwCl [(cB, .byte), (cI, .int), (cJ, .long)] s) (hA : ∀ q, s.heap.size ≤ q → A q) (x1 : Int32) (x3 : Int32) (x4 : Int32) (x5 : Int32) (x6 : Int32) (x7 : Int32) (t0 : Int32) (win : Int32) (won : Int32) (whn : Int32) (wpl : Int32) (wdn : Int32) (wfo : Int32) (wmn : Int32) (wpn : Int32) (wbn : Int32) (wcn : Int32) (wat : Int32) (wnu : Int32) (wif : Nat → Int32) (whf : Nat → Int32) (wbf : Nat → Int32) (wcf : Nat → Int32) (wlf : Nat → Int64) (kh262 : Int32 → Int32 → Int32 → Int32 → Int32 → Int32 → (Nat → Int32) → (Nat → Int32) → (Nat → Int64) → Option (Int32 × Int32 × Int32 × Int32 × Int32 × Int32 × (Nat → Int32) × (Nat → Int32) × (Nat → Int64))) (ih262 : ∀ (x7 : Int32) (wpl : Int32) (wbn : Int32) (wcn : Int32) (wat : Int32) (wnu : Int32) (wbf : Nat → Int32) (wcf : Nat → Int32) (wlf : Nat → Int64), kh262 x7 wpl wbn wcn wat wnu wbf wcf wlf = some (r_z, wpl_z, wbn_z, wcn_z, wat_z, wnu_z, wbf_z, wcf_z, wlf_z) → ∀ (H : Heap) (locs : List Loc), va_P (dC, dI) vwCl (wd_Mo_readFrame w wi wh wb wc wl wo wd wm wp cB cI cJ win won whn wpl wdn wfo wmn wpn wbn wcn wat wnu wif whf wbf wcf wlf) H → va_D A (wd_Mo_readFrame w wi wh wb wc wl wo wd wm wp cB cI cJ win won whn wpl wdn wfo wmn wpn wbn wcn wat wnu wif whf wbf wcf wlf) → va_S A s.heap H locs → ∀ (ls : Array Slot), lv_has ls 11 [(0, .ref w), (1, .int x1), (3, .int x3), (4, .int x4), (5, .int x5), (6, .int x6), (7, .int x7)] → W p l e rm_Mo_readFrame s m args below meth c H locs 0 0 (MQ below (sQi (dC, dI) vwCl [(cB, .byte), (cI, .int), (cJ, .long)] A r_z (wd_Mo_readFrame w wi wh wb wc wl wo wd wm wp cB cI cJ win won whn wpl_z wdn wfo wmn wpn wbn_z wcn_z wat_z wnu_z wif whf wbf_z wcf_z wlf_z)) args s 0 0 A) (F0 m 262 ls [])) (hf : j_Mo_readFrame_338 x7 t0 wpl wbn wcn wat wnu wbf wcf wlf kh262 = some (r_z, wpl_z, wbn_z, wcn_z, wat_z, wnu_z, wbf_z, wcf_z, wlf_z)) (hP : va_P (dC, dI) vwCl (wd_Mo_readFrame w wi wh wb wc wl wo wd wm wp cB cI cJ win won whn wpl wdn wfo wmn wpn wbn wcn wat wnu wif whf wbf wcf wlf) H) (hD : va_D A (wd_Mo_readFrame w wi wh wb wc wl wo wd wm wp cB cI cJ win won whn wpl wdn wfo wmn wpn wbn wcn wat wnu wif whf wbf wcf wlf)) (hS : va_S A s.heap H locs) (hl : lv_has ls 11 [(0, .ref w), (1, .int x1), (3, .int x3), (4, .int x4), (5, .int x5), (6, .int x6), (7, .int x7)]) : W p l e rm_Mo_readFrame s m args below meth c H locs 0 0 (MQ below (sQi (dC, dI) vwCl [(cB, .byte), (cI, .int), (cJ, .long)] A r_z (wd_Mo_readFrame w wi wh wb wc wl wo wd wm wp cB cI cJ win won whn wpl_z wdn wfo wmn wpn wbn_z wcn_z wat_z wnu_z wif whf wbf_z wcf_z wlf_z)) args s 0 0 A) (F0 m 338 ls [.int t0]) := by
  obtain ⟨hx, hb, hml, hown, hts, hr, hlocks, hZ⟩ := id C
  unfold j_Mo_readFrame_338 at hf
  refine lv_istore (lv' := [(10, .int t0), (0, .ref w), (1, .int x1), (3, .int x3), (4, .int x4), (5, .int x5), (6, .int x6), (7, .int x7)]) hx hb d_Mo_readFrame_338 hl (by decide) rfl (fun ls hl => ?_)
  refine lv_iload hx hb d_Mo_readFrame_340 (lv_at hl 0 rfl) ?_
  refine lv_if_le (tgt := 348) hx hb d_Mo_readFrame_342 (by decide) (fun c_342 => ?_) (fun c_342 => ?_)
  · have hf := br_pos c_342 hf
    refine lv_aload_n hx hb d_Mo_readFrame_348 rfl (lv_at hl 1 rfl) ?_
    refine lv_iload hx hb d_Mo_readFrame_349 (lv_at hl 7 rfl) ?_
    refine lv_if_eq (tgt := 361) hx hb d_Mo_readFrame_351 (by decide) (fun c_351 => ?_) (fun c_351 => ?_)
    · have hf := br_pos c_351 hf
      refine lv_aload_n hx hb d_Mo_readFrame_361 rfl (lv_at hl 1 rfl) ?_
      refine va_get (D := (dC, dI)) (ci := 7) (v := .int wat) (C := R_Mo) (T := T_Mo) (N := 21) hx hb hts w_351 hown hK hP 0 rfl rfl 19 (by decide) (hts _ w_360) (fun _ h9 => h9) rfl d_Mo_readFrame_362 ?_
      refine lv_iconst (v := 4) hx hb d_Mo_readFrame_365 (by decide) ?_
      refine lv_iadd hx hb d_Mo_readFrame_366 ?_
      exact k_Mo_readFrame_367 C hK hA x1 x3 x4 x5 x6 x7 (wat + (4 : Int32)) win won whn wpl wdn wfo wmn wpn wbn wcn wat wnu wif whf wbf wcf wlf kh262 ih262 hf hP hD hS (lv_sub hl [1, 2, 3, 4, 5, 6, 7] rfl)
    · have hf := br_neg c_351 hf
      refine lv_aload_n hx hb d_Mo_readFrame_354 rfl (lv_at hl 1 rfl) ?_
      refine va_get (D := (dC, dI)) (ci := 7) (v := .int wat) (C := R_Mo) (T := T_Mo) (N := 21) hx hb hts w_351 hown hK hP 0 rfl rfl 19 (by decide) (hts _ w_360) (fun _ h9 => h9) rfl d_Mo_readFrame_355 ?_
      refine lv_goto (tgt := 367) hx hb d_Mo_readFrame_358 (by decide) ?_
      exact k_Mo_readFrame_367 C hK hA x1 x3 x4 x5 x6 x7 wat win won whn wpl wdn wfo wmn wpn wbn wcn wat wnu wif whf wbf wcf wlf kh262 ih262 hf hP hD hS (lv_sub hl [1, 2, 3, 4, 5, 6, 7] rfl)
  · have hf := br_neg c_342 hf
    refine lv_iload hx hb d_Mo_readFrame_345 (lv_at hl 0 rfl) ?_
    cases hf
    exact s_iret hx hb hr hlocks hP hK hD hS d_Mo_readFrame_347
noncomputable def j_Mo_readFrame_308 (N : Nat) (x1 : Int32) (x3 : Int32) (x4 : Int32) (x6 : Int32) (x8 : Int64) (t0 : Int32) (win : Int32) (whn : Int32) (wpl : Int32) (wbn : Int32) (wcn : Int32) (wat : Int32) (wnu : Int32) (wif : Nat → Int32) (whf : Nat → Int32) (wbf : Nat → Int32) (wcf : Nat → Int32) (wlf : Nat → Int64) (kh262 : Int32 → Int32 → Int32 → Int32 → Int32 → Int32 → (Nat → Int32) → (Nat → Int32) → (Nat → Int64) → Option (Int32 × Int32 × Int32 × Int32 × Int32 × Int32 × (Nat → Int32) × (Nat → Int32) × (Nat → Int64))) : Option (Int32 × Int32 × Int32 × Int32 × Int32 × Int32 × (Nat → Int32) × (Nat → Int32) × (Nat → Int64)) :=
  (if t0 = 0 then (j_Mo_readFrame_338 t0 (0 : Int32) wpl wbn wcn wat wnu wbf wcf wlf kh262) else bd9 (f_Mo_readPart N x8 x3 ((1 : Int32) <<< (((8 : Int32) + ((2 : Int32) * x4)) &&& 31)) x6 x1 win whn wpl wbn wcn wat wnu wif whf wbf wcf wlf) (fun r331 wpl_331 wbn_331 wcn_331 wat_331 wnu_331 wbf_331 wcf_331 wlf_331 => (j_Mo_readFrame_338 t0 r331 wpl_331 wbn_331 wcn_331 wat_331 wnu_331 wbf_331 wcf_331 wlf_331 kh262)))
set_option maxHeartbeats 4000000 in
set_option maxRecDepth 100000 in
theorem k_Mo_readFrame_308 {r_z : Int32} {wpl_z : Int32} {wbn_z : Int32} {wcn_z : Int32} {wat_z : Int32} {wnu_z : Int32} {wbf_z : Nat → Int32} {wcf_z : Nat → Int32} {wlf_z : Nat → Int64} (C : Fx p s m args meth c cd_Mo_readFrame 11 R_Mo lw_g (some .int)) (hK : va_K (dC, dI) vwCl [(cB, .byte), (cI, .int), (cJ, .long)] s) (hA : ∀ q, s.heap.size ≤ q → A q) (x1 : Int32) (x3 : Int32) (x4 : Int32) (x5 : Int32) (x6 : Int32) (x8 : Int64) (t0 : Int32) (win : Int32) (won : Int32) (whn : Int32) (wpl : Int32) (wdn : Int32) (wfo : Int32) (wmn : Int32) (wpn : Int32) (wbn : Int32) (wcn : Int32) (wat : Int32) (wnu : Int32) (wif : Nat → Int32) (whf : Nat → Int32) (wbf : Nat → Int32) (wcf : Nat → Int32) (wlf : Nat → Int64) (kh262 : Int32 → Int32 → Int32 → Int32 → Int32 → Int32 → (Nat → Int32) → (Nat → Int32) → (Nat → Int64) → Option (Int32 × Int32 × Int32 × Int32 × Int32 × Int32 × (Nat → Int32) × (Nat → Int32) × (Nat → Int64))) (ih262 : ∀ (x7 : Int32) (wpl : Int32) (wbn : Int32) (wcn : Int32) (wat : Int32) (wnu : Int32) (wbf : Nat → Int32) (wcf : Nat → Int32) (wlf : Nat → Int64), kh262 x7 wpl wbn wcn wat wnu wbf wcf wlf = some (r_z, wpl_z, wbn_z, wcn_z, wat_z, wnu_z, wbf_z, wcf_z, wlf_z) → ∀ (H : Heap) (locs : List Loc), va_P (dC, dI) vwCl (wd_Mo_readFrame w wi wh wb wc wl wo wd wm wp cB cI cJ win won whn wpl wdn wfo wmn wpn wbn wcn wat wnu wif whf wbf wcf wlf) H → va_D A (wd_Mo_readFrame w wi wh wb wc wl wo wd wm wp cB cI cJ win won whn wpl wdn wfo wmn wpn wbn wcn wat wnu wif whf wbf wcf wlf) → va_S A s.heap H locs → ∀ (ls : Array Slot), lv_has ls 11 [(0, .ref w), (1, .int x1), (3, .int x3), (4, .int x4), (5, .int x5), (6, .int x6), (7, .int x7)] → W p l e rm_Mo_readFrame s m args below meth c H locs 0 0 (MQ below (sQi (dC, dI) vwCl [(cB, .byte), (cI, .int), (cJ, .long)] A r_z (wd_Mo_readFrame w wi wh wb wc wl wo wd wm wp cB cI cJ win won whn wpl_z wdn wfo wmn wpn wbn_z wcn_z wat_z wnu_z wif whf wbf_z wcf_z wlf_z)) args s 0 0 A) (F0 m 262 ls [])) (hf : j_Mo_readFrame_308 N x1 x3 x4 x6 x8 t0 win whn wpl wbn wcn wat wnu wif whf wbf wcf wlf kh262 = some (r_z, wpl_z, wbn_z, wcn_z, wat_z, wnu_z, wbf_z, wcf_z, wlf_z)) (hP : va_P (dC, dI) vwCl (wd_Mo_readFrame w wi wh wb wc wl wo wd wm wp cB cI cJ win won whn wpl wdn wfo wmn wpn wbn wcn wat wnu wif whf wbf wcf wlf) H) (hD : va_D A (wd_Mo_readFrame w wi wh wb wc wl wo wd wm wp cB cI cJ win won whn wpl wdn wfo wmn wpn wbn wcn wat wnu wif whf wbf wcf wlf)) (hS : va_S A s.heap H locs) (hl : lv_has ls 11 [(0, .ref w), (1, .int x1), (3, .int x3), (4, .int x4), (5, .int x5), (6, .int x6), (8, .long x8)]) : W p l e rm_Mo_readFrame s m args below meth c H locs 0 0 (MQ below (sQi (dC, dI) vwCl [(cB, .byte), (cI, .int), (cJ, .long)] A r_z (wd_Mo_readFrame w wi wh wb wc wl wo wd wm wp cB cI cJ win won whn wpl_z wdn wfo wmn wpn wbn_z wcn_z wat_z wnu_z wif whf wbf_z wcf_z wlf_z)) args s 0 0 A) (F0 m 308 ls [.int t0]) := by
  obtain ⟨hx, hb, hml, hown, hts, hr, hlocks, hZ⟩ := id C
  unfold j_Mo_readFrame_308 at hf
  refine lv_istore (lv' := [(7, .int t0), (0, .ref w), (1, .int x1), (3, .int x3), (4, .int x4), (5, .int x5), (6, .int x6), (8, .long x8)]) hx hb d_Mo_readFrame_308 hl (by decide) rfl (fun ls hl => ?_)
  refine lv_iload hx hb d_Mo_readFrame_310 (lv_at hl 0 rfl) ?_
  refine lv_if_eq (tgt := 337) hx hb d_Mo_readFrame_312 (by decide) (fun c_312 => ?_) (fun c_312 => ?_)
  · have hf := br_pos c_312 hf
    refine lv_iconst (v := 0) hx hb d_Mo_readFrame_337 (by decide) ?_
    exact k_Mo_readFrame_338 C hK hA x1 x3 x4 x5 x6 t0 (0 : Int32) win won whn wpl wdn wfo wmn wpn wbn wcn wat wnu wif whf wbf wcf wlf kh262 ih262 hf hP hD hS (lv_sub hl [1, 2, 3, 4, 5, 6, 0] rfl)
  · have hf := br_neg c_312 hf
    refine lv_aload_n hx hb d_Mo_readFrame_315 rfl (lv_at hl 1 rfl) ?_
    refine lv_lload hx hb d_Mo_readFrame_316 (lv_at hl 7 rfl) ?_
    refine lv_iload_n hx hb d_Mo_readFrame_318 rfl (lv_at hl 3 rfl) ?_
    refine lv_iconst (v := 1) hx hb d_Mo_readFrame_319 (by decide) ?_
    refine lv_bipush (v := 8) hx hb d_Mo_readFrame_320 (by decide) ?_
    refine lv_iconst (v := 2) hx hb d_Mo_readFrame_322 (by decide) ?_
    refine lv_iload hx hb d_Mo_readFrame_323 (lv_at hl 4 rfl) ?_
    refine lv_imul hx hb d_Mo_readFrame_325 ?_
    refine lv_iadd hx hb d_Mo_readFrame_326 ?_
    refine lv_ishl hx hb d_Mo_readFrame_327 ?_
    refine lv_iload hx hb d_Mo_readFrame_328 (lv_at hl 6 rfl) ?_
    refine lv_iload_n hx hb d_Mo_readFrame_330 rfl (lv_at hl 2 rfl) ?_
    obtain ⟨r331, wpl_331, wbn_331, wcn_331, wat_331, wnu_331, wbf_331, wcf_331, wlf_331, hc331, hf⟩ := bd9_some hf
    refine s_Vi (As := [.long x8, .int x3, .int ((1 : Int32) <<< (((8 : Int32) + ((2 : Int32) * x4)) &&& 31)), .int x6, .int x1]) (rest := []) (wr := []) (ws' := wd_Mo_readFrame w wi wh wb wc wl wo wd wm wp cB cI cJ win won whn wpl_331 wdn wfo wmn wpn wbn_331 wcn_331 wat_331 wnu_331 wif whf wbf_331 wcf_331 wlf_331) C.call (c_Mo_readPart l dC dI cB cI cJ w wi wh wb wc wl wo wd wm wp  win won whn wpl wdn wfo wmn wpn wbn wcn wat wnu wif whf wbf wcf wlf x8 x3 ((1 : Int32) <<< (((8 : Int32) + ((2 : Int32) * x4)) &&& 31)) x6 x1 hc331) (cwV 5 hts (gd_V w_472 w_473 w_474 w_357 w_475) rfl rfl rfl ⟨rfl, hd_Mo_readPart⟩ ⟨Nat.le_of_ble_eq_true rfl, Nat.le_of_ble_eq_true rfl⟩) rfl hl.1 rfl (Nat.le_of_ble_eq_true rfl) d_Mo_readFrame_331 ⟨Nat.le_of_ble_eq_true rfl, Nat.le_of_ble_eq_true rfl⟩ hZ hK hP hD hS hA 7 0 rfl rfl [0, 1, 2, 3, 4, 5] [] [0, 1, 2, 3, 4, 5] rfl rfl rfl rfl (by decide) rfl rfl (fun H locs hP hD hS => ?_)
    refine lv_goto (tgt := 338) hx hb d_Mo_readFrame_334 (by decide) ?_
    exact k_Mo_readFrame_338 C hK hA x1 x3 x4 x5 x6 t0 r331 win won whn wpl_331 wdn wfo wmn wpn wbn_331 wcn_331 wat_331 wnu_331 wif whf wbf_331 wcf_331 wlf_331 kh262 ih262 hf hP hD hS (lv_sub hl [1, 2, 3, 4, 5, 6, 0] rfl)
noncomputable def b_Mo_readFrame_262 (N : Nat) (x1 : Int32) (x3 : Int32) (x4 : Int32) (x5 : Int32) (x6 : Int32) (win : Int32) (whn : Int32) (wif : Nat → Int32) (whf : Nat → Int32)  (kh262 : Int32 → Int32 → Int32 → Int32 → Int32 → Int32 → (Nat → Int32) → (Nat → Int32) → (Nat → Int64) → Option (Int32 × Int32 × Int32 × Int32 × Int32 × Int32 × (Nat → Int32) × (Nat → Int32) × (Nat → Int64))) (x7 : Int32) (wpl : Int32) (wbn : Int32) (wcn : Int32) (wat : Int32) (wnu : Int32) (wbf : Nat → Int32) (wcf : Nat → Int32) (wlf : Nat → Int64) : Option (Int32 × Int32 × Int32 × Int32 × Int32 × Int32 × (Nat → Int32) × (Nat → Int32) × (Nat → Int64)) :=
  (if x7 = 0 then (if (x3 &&& (4 : Int32)) = 0 then (j_Mo_readFrame_445 N x3 x5 x6 wpl wbn wcn wat wnu wif wbf wcf wlf ) else bd1 (f_Mo_has (4 : Int32) win wat) (fun r381 => (if r381 = 0 then bd2 (f_Mo_fault (1 : Int32) win) (fun r393 wpl_393 => (some (r393, wpl_393, wbn, wcn, wat, wnu, wbf, wcf, wlf) : Option (Int32 × Int32 × Int32 × Int32 × Int32 × Int32 × (Nat → Int32) × (Nat → Int32) × (Nat → Int64)))) else bd1 (f_Mo_numberAt N wat (4 : Int32) wif) (fun r403 => bd2 (f_Mo_sumOf N 8000 x6 wcn wlf wcf) (fun r417 wlf_417 => (if (lg_cmp r403 r417) = 0 then (j_Mo_readFrame_445 N x3 x5 x6 wpl wbn wcn (wat + (4 : Int32)) wnu wif wbf wcf wlf_417 ) else bd2 (f_Mo_fault (10 : Int32) wat) (fun r431 wpl_431 => (some (r431, wpl_431, wbn, wcn, wat, wnu, wbf, wcf, wlf_417) : Option (Int32 × Int32 × Int32 × Int32 × Int32 × Int32 × (Nat → Int32) × (Nat → Int32) × (Nat → Int64)))))))))) else bd1 (f_Mo_has (4 : Int32) win wat) (fun r269 => (if r269 = 0 then bd2 (f_Mo_fault (1 : Int32) win) (fun r281 wpl_281 => (some (r281, wpl_281, wbn, wcn, wat, wnu, wbf, wcf, wlf) : Option (Int32 × Int32 × Int32 × Int32 × Int32 × Int32 × (Nat → Int32) × (Nat → Int32) × (Nat → Int64)))) else bd1 (f_Mo_numberAt N wat (4 : Int32) wif) (fun r291 => (if (lg_cmp r291 (0 : Int64)) = 0 then (j_Mo_readFrame_308 N x1 x3 x4 x6 r291 (0 : Int32) win whn wpl wbn wcn wat wnu wif whf wbf wcf wlf kh262) else (j_Mo_readFrame_308 N x1 x3 x4 x6 r291 (1 : Int32) win whn wpl wbn wcn wat wnu wif whf wbf wcf wlf kh262))))))
set_option maxHeartbeats 4000000 in
set_option maxRecDepth 100000 in
theorem k_Mo_readFrame_262 {r_z : Int32} {wpl_z : Int32} {wbn_z : Int32} {wcn_z : Int32} {wat_z : Int32} {wnu_z : Int32} {wbf_z : Nat → Int32} {wcf_z : Nat → Int32} {wlf_z : Nat → Int64} (C : Fx p s m args meth c cd_Mo_readFrame 11 R_Mo lw_g (some .int)) (hK : va_K (dC, dI) vwCl [(cB, .byte), (cI, .int), (cJ, .long)] s) (hA : ∀ q, s.heap.size ≤ q → A q) (x1 : Int32) (x3 : Int32) (x4 : Int32) (x5 : Int32) (x6 : Int32) (win : Int32) (won : Int32) (whn : Int32) (wdn : Int32) (wfo : Int32) (wmn : Int32) (wpn : Int32) (wif : Nat → Int32) (whf : Nat → Int32)  : ∀ (n : Nat) (x7 : Int32) (wpl : Int32) (wbn : Int32) (wcn : Int32) (wat : Int32) (wnu : Int32) (wbf : Nat → Int32) (wcf : Nat → Int32) (wlf : Nat → Int64), loop9 (b_Mo_readFrame_262 N x1 x3 x4 x5 x6 win whn wif whf ) n x7 wpl wbn wcn wat wnu wbf wcf wlf = some (r_z, wpl_z, wbn_z, wcn_z, wat_z, wnu_z, wbf_z, wcf_z, wlf_z) → ∀ (H : Heap) (locs : List Loc), va_P (dC, dI) vwCl (wd_Mo_readFrame w wi wh wb wc wl wo wd wm wp cB cI cJ win won whn wpl wdn wfo wmn wpn wbn wcn wat wnu wif whf wbf wcf wlf) H → va_D A (wd_Mo_readFrame w wi wh wb wc wl wo wd wm wp cB cI cJ win won whn wpl wdn wfo wmn wpn wbn wcn wat wnu wif whf wbf wcf wlf) → va_S A s.heap H locs → ∀ (ls : Array Slot), lv_has ls 11 [(0, .ref w), (1, .int x1), (3, .int x3), (4, .int x4), (5, .int x5), (6, .int x6), (7, .int x7)] → W p l e rm_Mo_readFrame s m args below meth c H locs 0 0 (MQ below (sQi (dC, dI) vwCl [(cB, .byte), (cI, .int), (cJ, .long)] A r_z (wd_Mo_readFrame w wi wh wb wc wl wo wd wm wp cB cI cJ win won whn wpl_z wdn wfo wmn wpn wbn_z wcn_z wat_z wnu_z wif whf wbf_z wcf_z wlf_z)) args s 0 0 A) (F0 m 262 ls []) := by
  obtain ⟨hx, hb, hml, hown, hts, hr, hlocks, hZ⟩ := id C
  intro n
  induction n with
  | zero => intro x7 wpl wbn wcn wat wnu wbf wcf wlf hf; cases hf
  | succ n ih262 =>
    intro x7 wpl wbn wcn wat wnu wbf wcf wlf hf H locs hP hD hS ls hl
    have hf : b_Mo_readFrame_262 N x1 x3 x4 x5 x6 win whn wif whf  (loop9 (b_Mo_readFrame_262 N x1 x3 x4 x5 x6 win whn wif whf ) n) x7 wpl wbn wcn wat wnu wbf wcf wlf = some (r_z, wpl_z, wbn_z, wcn_z, wat_z, wnu_z, wbf_z, wcf_z, wlf_z) := hf
    generalize loop9 (b_Mo_readFrame_262 N x1 x3 x4 x5 x6 win whn wif whf ) n = kh262 at hf ih262
    unfold b_Mo_readFrame_262 at hf
    refine lv_iload hx hb d_Mo_readFrame_262 (lv_at hl 6 rfl) ?_
    refine lv_if_eq (tgt := 373) hx hb d_Mo_readFrame_264 (by decide) (fun c_264 => ?_) (fun c_264 => ?_)
    · have hf := br_pos c_264 hf
      refine lv_iload_n hx hb d_Mo_readFrame_373 rfl (lv_at hl 2 rfl) ?_
      refine lv_iconst (v := 4) hx hb d_Mo_readFrame_374 (by decide) ?_
      refine lv_iand hx hb d_Mo_readFrame_375 ?_
      refine lv_if_eq (tgt := 445) hx hb d_Mo_readFrame_376 (by decide) (fun c_376 => ?_) (fun c_376 => ?_)
      · have hf := br_pos c_376 hf
        exact k_Mo_readFrame_445 C hK hA x3 x5 x6 win won whn wpl wdn wfo wmn wpn wbn wcn wat wnu wif whf wbf wcf wlf  hf hP hD hS (lv_sub hl [0, 2, 4, 5] rfl)
      · have hf := br_neg c_376 hf
        refine lv_aload_n hx hb d_Mo_readFrame_379 rfl (lv_at hl 0 rfl) ?_
        refine lv_iconst (v := 4) hx hb d_Mo_readFrame_380 (by decide) ?_
        obtain ⟨r381, hc381, hf⟩ := bd1_some hf
        refine s_Vi (As := [.int (4 : Int32)]) (rest := []) (wr := [(wi, .inl (cI, 8000, .inl wif)), (wh, .inl (cI, 8000, .inl whf)), (wb, .inl (cI, 16000, .inl wbf)), (wc, .inl (cI, 8000, .inl wcf)), (wl, .inl (cJ, 4, .inr (.inl wlf)))]) (ws' := wd_Mo_readFrame w wi wh wb wc wl wo wd wm wp cB cI cJ win won whn wpl wdn wfo wmn wpn wbn wcn wat wnu wif whf wbf wcf wlf) C.call (c_Mo_has l dC dI cB cI cJ w wi wo wh wd wm wp wb wc wl  win won whn wpl wdn wfo wmn wpn wbn wcn wat wnu (4 : Int32) hc381) (cwV 1 hts (gd_V w_464 w_465 w_466 w_357 w_467) rfl rfl rfl ⟨rfl, hd_Mo_has⟩ ⟨Nat.le_of_ble_eq_true rfl, Nat.le_of_ble_eq_true rfl⟩) rfl hl.1 rfl (Nat.le_of_ble_eq_true rfl) d_Mo_readFrame_381 ⟨Nat.le_of_ble_eq_true rfl, Nat.le_of_ble_eq_true rfl⟩ hZ hK hP hD hS hA 7 0 rfl rfl [0] [1, 2, 3, 4, 5] [5, 0, 1, 2, 3, 4] rfl rfl rfl rfl (by decide) rfl rfl (fun H locs hP hD hS => ?_)
        refine lv_if_ne (tgt := 397) hx hb d_Mo_readFrame_384 (by decide) (fun c_384 => ?_) (fun c_384 => ?_)
        · have hf := br_neg c_384 hf
          refine lv_aload_n hx hb d_Mo_readFrame_397 rfl (lv_at hl 0 rfl) ?_
          refine lv_aload_n hx hb d_Mo_readFrame_398 rfl (lv_at hl 0 rfl) ?_
          refine va_get (D := (dC, dI)) (ci := 7) (v := .int wat) (C := R_Mo) (T := T_Mo) (N := 21) hx hb hts w_351 hown hK hP 0 rfl rfl 19 (by decide) (hts _ w_360) (fun _ h9 => h9) rfl d_Mo_readFrame_399 ?_
          refine lv_iconst (v := 4) hx hb d_Mo_readFrame_402 (by decide) ?_
          obtain ⟨r403, hc403, hf⟩ := bd1_some hf
          refine s_Vl (As := [.int wat, .int (4 : Int32)]) (rest := []) (wr := [(wh, .inl (cI, 8000, .inl whf)), (wb, .inl (cI, 16000, .inl wbf)), (wc, .inl (cI, 8000, .inl wcf)), (wl, .inl (cJ, 4, .inr (.inl wlf)))]) (ws' := wd_Mo_readFrame w wi wh wb wc wl wo wd wm wp cB cI cJ win won whn wpl wdn wfo wmn wpn wbn wcn wat wnu wif whf wbf wcf wlf) C.call (c_Mo_numberAt l dC dI cB cI cJ w wi wo wh wd wm wp wb wc wl  win won whn wpl wdn wfo wmn wpn wbn wcn wat wnu wif wat (4 : Int32) hc403) (cwV 2 hts (gd_V w_468 w_469 w_470 w_357 w_471) rfl rfl rfl ⟨rfl, hd_Mo_numberAt⟩ ⟨Nat.le_of_ble_eq_true rfl, Nat.le_of_ble_eq_true rfl⟩) rfl hl.1 rfl (Nat.le_of_ble_eq_true rfl) d_Mo_readFrame_403 ⟨Nat.le_of_ble_eq_true rfl, Nat.le_of_ble_eq_true rfl⟩ hZ hK hP hD hS hA 7 0 rfl rfl [0, 1] [2, 3, 4, 5] [4, 5, 0, 1, 2, 3] rfl rfl rfl rfl (by decide) rfl rfl (fun H locs hP hD hS => ?_)
          refine lv_aload_n hx hb d_Mo_readFrame_406 rfl (lv_at hl 0 rfl) ?_
          refine lv_aload_n hx hb d_Mo_readFrame_407 rfl (lv_at hl 0 rfl) ?_
          refine va_get (D := (dC, dI)) (ci := 7) (v := .ref wc) (C := R_Mo) (T := T_Mo) (N := 21) hx hb hts w_351 hown hK hP 0 rfl rfl 16 (by decide) (hts _ w_459) (fun _ h9 => h9) rfl d_Mo_readFrame_408 ?_
          refine lv_iload hx hb d_Mo_readFrame_411 (lv_at hl 5 rfl) ?_
          refine lv_aload_n hx hb d_Mo_readFrame_413 rfl (lv_at hl 0 rfl) ?_
          refine va_get (D := (dC, dI)) (ci := 7) (v := .int wcn) (C := R_Mo) (T := T_Mo) (N := 21) hx hb hts w_351 hown hK hP 0 rfl rfl 17 (by decide) (hts _ w_450) (fun _ h9 => h9) rfl d_Mo_readFrame_414 ?_
          obtain ⟨r417, wlf_417, hc417, hf⟩ := bd2_some hf
          refine s_Vl (As := [.ref wc, .int x6, .int wcn]) (rest := [.long r403]) (wr := [(wi, .inl (cI, 8000, .inl wif)), (wh, .inl (cI, 8000, .inl whf)), (wb, .inl (cI, 16000, .inl wbf))]) (ws' := wd_Mo_readFrame w wi wh wb wc wl wo wd wm wp cB cI cJ win won whn wpl wdn wfo wmn wpn wbn wcn wat wnu wif whf wbf wcf wlf_417) C.call (c_Mo_sumOf l dC dI cB cI cJ w wl wc wi wo wh wd wm wp wb wc 8000 win won whn wpl wdn wfo wmn wpn wbn wcn wat wnu wlf wcf x6 wcn hc417) (cwV 3 hts (gd_V w_441 w_442 w_443 w_357 w_444) rfl rfl rfl ⟨rfl, hd_Mo_sumOf⟩ ⟨Nat.le_of_ble_eq_true rfl, Nat.le_of_ble_eq_true rfl⟩) rfl hl.1 rfl (Nat.le_of_ble_eq_true rfl) d_Mo_readFrame_417 ⟨Nat.le_of_ble_eq_true rfl, Nat.le_of_ble_eq_true rfl⟩ hZ hK hP hD hS hA 7 0 rfl rfl [0, 5, 4] [1, 2, 3] [3, 0, 1, 2, 5, 4] rfl rfl rfl rfl (by decide) rfl rfl (fun H locs hP hD hS => ?_)
          refine W.lcmp hx hb d_Mo_readFrame_420 ?_
          refine lv_if_eq (tgt := 435) hx hb d_Mo_readFrame_421 (by decide) (fun c_421 => ?_) (fun c_421 => ?_)
          · have hf := br_pos c_421 hf
            refine lv_aload_n hx hb d_Mo_readFrame_435 rfl (lv_at hl 0 rfl) ?_
            refine lv_dup hx hb d_Mo_readFrame_436 rfl ?_
            refine va_get (D := (dC, dI)) (ci := 7) (v := .int wat) (C := R_Mo) (T := T_Mo) (N := 21) hx hb hts w_351 hown hK hP 0 rfl rfl 19 (by decide) (hts _ w_360) (fun _ h9 => h9) rfl d_Mo_readFrame_437 ?_
            refine lv_iconst (v := 4) hx hb d_Mo_readFrame_440 (by decide) ?_
            refine lv_iadd hx hb d_Mo_readFrame_441 ?_
            refine va_put (D := (dC, dI)) (ci := 7) (v := .int (wat + (4 : Int32))) (ty := .int) (C := R_Mo) (T := T_Mo) (N := 21) hx hb hts w_351 ty_Mo ty_Mo_ok nm_Mo hown hK hP hD hS 0 rfl rfl 19 (by decide) (hts _ w_360) (fun _ h9 => h9) rfl (by decide +kernel) rfl rfl (Nat.le_of_ble_eq_true rfl) d_Mo_readFrame_442 (fun H locs hP hD hS => ?_)
            have hP : va_P (dC, dI) vwCl (wd_Mo_readFrame w wi wh wb wc wl wo wd wm wp cB cI cJ win won whn wpl wdn wfo wmn wpn wbn wcn (wat + (4 : Int32)) wnu wif whf wbf wcf wlf_417) H := hP
            have hD : va_D A (wd_Mo_readFrame w wi wh wb wc wl wo wd wm wp cB cI cJ win won whn wpl wdn wfo wmn wpn wbn wcn (wat + (4 : Int32)) wnu wif whf wbf wcf wlf_417) := hD
            exact k_Mo_readFrame_445 C hK hA x3 x5 x6 win won whn wpl wdn wfo wmn wpn wbn wcn (wat + (4 : Int32)) wnu wif whf wbf wcf wlf_417  hf hP hD hS (lv_sub hl [0, 2, 4, 5] rfl)
          · have hf := br_neg c_421 hf
            refine lv_aload_n hx hb d_Mo_readFrame_424 rfl (lv_at hl 0 rfl) ?_
            refine lv_bipush (v := 10) hx hb d_Mo_readFrame_425 (by decide) ?_
            refine lv_aload_n hx hb d_Mo_readFrame_427 rfl (lv_at hl 0 rfl) ?_
            refine va_get (D := (dC, dI)) (ci := 7) (v := .int wat) (C := R_Mo) (T := T_Mo) (N := 21) hx hb hts w_351 hown hK hP 0 rfl rfl 19 (by decide) (hts _ w_360) (fun _ h9 => h9) rfl d_Mo_readFrame_428 ?_
            obtain ⟨r431, wpl_431, hc431, hf⟩ := bd2_some hf
            refine s_Vi (As := [.int (10 : Int32), .int wat]) (rest := []) (wr := [(wi, .inl (cI, 8000, .inl wif)), (wh, .inl (cI, 8000, .inl whf)), (wb, .inl (cI, 16000, .inl wbf)), (wc, .inl (cI, 8000, .inl wcf)), (wl, .inl (cJ, 4, .inr (.inl wlf_417)))]) (ws' := wd_Mo_readFrame w wi wh wb wc wl wo wd wm wp cB cI cJ win won whn wpl_431 wdn wfo wmn wpn wbn wcn wat wnu wif whf wbf wcf wlf_417) C.call (c_Mo_fault l dC dI cB cI cJ w wi wo wh wd wm wp wb wc wl  win won whn wpl wdn wfo wmn wpn wbn wcn wat wnu (10 : Int32) wat hc431) (cwV 2 hts (gd_V w_460 w_461 w_462 w_357 w_463) rfl rfl rfl ⟨rfl, hd_Mo_fault⟩ ⟨Nat.le_of_ble_eq_true rfl, Nat.le_of_ble_eq_true rfl⟩) rfl hl.1 rfl (Nat.le_of_ble_eq_true rfl) d_Mo_readFrame_431 ⟨Nat.le_of_ble_eq_true rfl, Nat.le_of_ble_eq_true rfl⟩ hZ hK hP hD hS hA 7 0 rfl rfl [0] [1, 2, 3, 4, 5] [5, 0, 1, 2, 3, 4] rfl rfl rfl rfl (by decide) rfl rfl (fun H locs hP hD hS => ?_)
            cases hf
            exact s_iret hx hb hr hlocks hP hK hD hS d_Mo_readFrame_434
        · have hf := br_pos c_384 hf
          refine lv_aload_n hx hb d_Mo_readFrame_387 rfl (lv_at hl 0 rfl) ?_
          refine lv_iconst (v := 1) hx hb d_Mo_readFrame_388 (by decide) ?_
          refine lv_aload_n hx hb d_Mo_readFrame_389 rfl (lv_at hl 0 rfl) ?_
          refine va_get (D := (dC, dI)) (ci := 7) (v := .int win) (C := R_Mo) (T := T_Mo) (N := 21) hx hb hts w_351 hown hK hP 0 rfl rfl 3 (by decide) (hts _ w_362) (fun _ h9 => h9) rfl d_Mo_readFrame_390 ?_
          obtain ⟨r393, wpl_393, hc393, hf⟩ := bd2_some hf
          refine s_Vi (As := [.int (1 : Int32), .int win]) (rest := []) (wr := [(wi, .inl (cI, 8000, .inl wif)), (wh, .inl (cI, 8000, .inl whf)), (wb, .inl (cI, 16000, .inl wbf)), (wc, .inl (cI, 8000, .inl wcf)), (wl, .inl (cJ, 4, .inr (.inl wlf)))]) (ws' := wd_Mo_readFrame w wi wh wb wc wl wo wd wm wp cB cI cJ win won whn wpl_393 wdn wfo wmn wpn wbn wcn wat wnu wif whf wbf wcf wlf) C.call (c_Mo_fault l dC dI cB cI cJ w wi wo wh wd wm wp wb wc wl  win won whn wpl wdn wfo wmn wpn wbn wcn wat wnu (1 : Int32) win hc393) (cwV 2 hts (gd_V w_460 w_461 w_462 w_357 w_463) rfl rfl rfl ⟨rfl, hd_Mo_fault⟩ ⟨Nat.le_of_ble_eq_true rfl, Nat.le_of_ble_eq_true rfl⟩) rfl hl.1 rfl (Nat.le_of_ble_eq_true rfl) d_Mo_readFrame_393 ⟨Nat.le_of_ble_eq_true rfl, Nat.le_of_ble_eq_true rfl⟩ hZ hK hP hD hS hA 7 0 rfl rfl [0] [1, 2, 3, 4, 5] [5, 0, 1, 2, 3, 4] rfl rfl rfl rfl (by decide) rfl rfl (fun H locs hP hD hS => ?_)
          cases hf
          exact s_iret hx hb hr hlocks hP hK hD hS d_Mo_readFrame_396
    · have hf := br_neg c_264 hf
      refine lv_aload_n hx hb d_Mo_readFrame_267 rfl (lv_at hl 0 rfl) ?_
      refine lv_iconst (v := 4) hx hb d_Mo_readFrame_268 (by decide) ?_
      obtain ⟨r269, hc269, hf⟩ := bd1_some hf
      refine s_Vi (As := [.int (4 : Int32)]) (rest := []) (wr := [(wi, .inl (cI, 8000, .inl wif)), (wh, .inl (cI, 8000, .inl whf)), (wb, .inl (cI, 16000, .inl wbf)), (wc, .inl (cI, 8000, .inl wcf)), (wl, .inl (cJ, 4, .inr (.inl wlf)))]) (ws' := wd_Mo_readFrame w wi wh wb wc wl wo wd wm wp cB cI cJ win won whn wpl wdn wfo wmn wpn wbn wcn wat wnu wif whf wbf wcf wlf) C.call (c_Mo_has l dC dI cB cI cJ w wi wo wh wd wm wp wb wc wl  win won whn wpl wdn wfo wmn wpn wbn wcn wat wnu (4 : Int32) hc269) (cwV 1 hts (gd_V w_464 w_465 w_466 w_357 w_467) rfl rfl rfl ⟨rfl, hd_Mo_has⟩ ⟨Nat.le_of_ble_eq_true rfl, Nat.le_of_ble_eq_true rfl⟩) rfl hl.1 rfl (Nat.le_of_ble_eq_true rfl) d_Mo_readFrame_269 ⟨Nat.le_of_ble_eq_true rfl, Nat.le_of_ble_eq_true rfl⟩ hZ hK hP hD hS hA 7 0 rfl rfl [0] [1, 2, 3, 4, 5] [5, 0, 1, 2, 3, 4] rfl rfl rfl rfl (by decide) rfl rfl (fun H locs hP hD hS => ?_)
      refine lv_if_ne (tgt := 285) hx hb d_Mo_readFrame_272 (by decide) (fun c_272 => ?_) (fun c_272 => ?_)
      · have hf := br_neg c_272 hf
        refine lv_aload_n hx hb d_Mo_readFrame_285 rfl (lv_at hl 0 rfl) ?_
        refine lv_aload_n hx hb d_Mo_readFrame_286 rfl (lv_at hl 0 rfl) ?_
        refine va_get (D := (dC, dI)) (ci := 7) (v := .int wat) (C := R_Mo) (T := T_Mo) (N := 21) hx hb hts w_351 hown hK hP 0 rfl rfl 19 (by decide) (hts _ w_360) (fun _ h9 => h9) rfl d_Mo_readFrame_287 ?_
        refine lv_iconst (v := 4) hx hb d_Mo_readFrame_290 (by decide) ?_
        obtain ⟨r291, hc291, hf⟩ := bd1_some hf
        refine s_Vl (As := [.int wat, .int (4 : Int32)]) (rest := []) (wr := [(wh, .inl (cI, 8000, .inl whf)), (wb, .inl (cI, 16000, .inl wbf)), (wc, .inl (cI, 8000, .inl wcf)), (wl, .inl (cJ, 4, .inr (.inl wlf)))]) (ws' := wd_Mo_readFrame w wi wh wb wc wl wo wd wm wp cB cI cJ win won whn wpl wdn wfo wmn wpn wbn wcn wat wnu wif whf wbf wcf wlf) C.call (c_Mo_numberAt l dC dI cB cI cJ w wi wo wh wd wm wp wb wc wl  win won whn wpl wdn wfo wmn wpn wbn wcn wat wnu wif wat (4 : Int32) hc291) (cwV 2 hts (gd_V w_468 w_469 w_470 w_357 w_471) rfl rfl rfl ⟨rfl, hd_Mo_numberAt⟩ ⟨Nat.le_of_ble_eq_true rfl, Nat.le_of_ble_eq_true rfl⟩) rfl hl.1 rfl (Nat.le_of_ble_eq_true rfl) d_Mo_readFrame_291 ⟨Nat.le_of_ble_eq_true rfl, Nat.le_of_ble_eq_true rfl⟩ hZ hK hP hD hS hA 7 0 rfl rfl [0, 1] [2, 3, 4, 5] [4, 5, 0, 1, 2, 3] rfl rfl rfl rfl (by decide) rfl rfl (fun H locs hP hD hS => ?_)
        refine lv_lstore (lv' := [(8, .long r291), (0, .ref w), (1, .int x1), (3, .int x3), (4, .int x4), (5, .int x5), (6, .int x6), (7, .int x7)]) hx hb d_Mo_readFrame_294 hl (by decide) rfl (fun ls hl => ?_)
        refine lv_lload hx hb d_Mo_readFrame_296 (lv_at hl 0 rfl) ?_
        refine lv_lconst (v := 0) hx hb d_Mo_readFrame_298 (by decide) ?_
        refine W.lcmp hx hb d_Mo_readFrame_299 ?_
        refine lv_if_eq (tgt := 307) hx hb d_Mo_readFrame_300 (by decide) (fun c_300 => ?_) (fun c_300 => ?_)
        · have hf := br_pos c_300 hf
          refine lv_iconst (v := 0) hx hb d_Mo_readFrame_307 (by decide) ?_
          exact k_Mo_readFrame_308 C hK hA x1 x3 x4 x5 x6 r291 (0 : Int32) win won whn wpl wdn wfo wmn wpn wbn wcn wat wnu wif whf wbf wcf wlf kh262 ih262 hf hP hD hS (lv_sub hl [1, 2, 3, 4, 5, 6, 0] rfl)
        · have hf := br_neg c_300 hf
          refine lv_iconst (v := 1) hx hb d_Mo_readFrame_303 (by decide) ?_
          refine lv_goto (tgt := 308) hx hb d_Mo_readFrame_304 (by decide) ?_
          exact k_Mo_readFrame_308 C hK hA x1 x3 x4 x5 x6 r291 (1 : Int32) win won whn wpl wdn wfo wmn wpn wbn wcn wat wnu wif whf wbf wcf wlf kh262 ih262 hf hP hD hS (lv_sub hl [1, 2, 3, 4, 5, 6, 0] rfl)
      · have hf := br_pos c_272 hf
        refine lv_aload_n hx hb d_Mo_readFrame_275 rfl (lv_at hl 0 rfl) ?_
        refine lv_iconst (v := 1) hx hb d_Mo_readFrame_276 (by decide) ?_
        refine lv_aload_n hx hb d_Mo_readFrame_277 rfl (lv_at hl 0 rfl) ?_
        refine va_get (D := (dC, dI)) (ci := 7) (v := .int win) (C := R_Mo) (T := T_Mo) (N := 21) hx hb hts w_351 hown hK hP 0 rfl rfl 3 (by decide) (hts _ w_362) (fun _ h9 => h9) rfl d_Mo_readFrame_278 ?_
        obtain ⟨r281, wpl_281, hc281, hf⟩ := bd2_some hf
        refine s_Vi (As := [.int (1 : Int32), .int win]) (rest := []) (wr := [(wi, .inl (cI, 8000, .inl wif)), (wh, .inl (cI, 8000, .inl whf)), (wb, .inl (cI, 16000, .inl wbf)), (wc, .inl (cI, 8000, .inl wcf)), (wl, .inl (cJ, 4, .inr (.inl wlf)))]) (ws' := wd_Mo_readFrame w wi wh wb wc wl wo wd wm wp cB cI cJ win won whn wpl_281 wdn wfo wmn wpn wbn wcn wat wnu wif whf wbf wcf wlf) C.call (c_Mo_fault l dC dI cB cI cJ w wi wo wh wd wm wp wb wc wl  win won whn wpl wdn wfo wmn wpn wbn wcn wat wnu (1 : Int32) win hc281) (cwV 2 hts (gd_V w_460 w_461 w_462 w_357 w_463) rfl rfl rfl ⟨rfl, hd_Mo_fault⟩ ⟨Nat.le_of_ble_eq_true rfl, Nat.le_of_ble_eq_true rfl⟩) rfl hl.1 rfl (Nat.le_of_ble_eq_true rfl) d_Mo_readFrame_281 ⟨Nat.le_of_ble_eq_true rfl, Nat.le_of_ble_eq_true rfl⟩ hZ hK hP hD hS hA 7 0 rfl rfl [0] [1, 2, 3, 4, 5] [5, 0, 1, 2, 3, 4] rfl rfl rfl rfl (by decide) rfl rfl (fun H locs hP hD hS => ?_)
        cases hf
        exact s_iret hx hb hr hlocks hP hK hD hS d_Mo_readFrame_284
noncomputable def j_Mo_readFrame_180 (N : Nat) (x1 : Int32) (x2 : Int32) (x3 : Int32) (x4 : Int32) (x5 : Int32) (win : Int32) (whn : Int32) (wpl : Int32) (wbn : Int32) (wcn : Int32) (wat : Int32) (wnu : Int32) (wif : Nat → Int32) (whf : Nat → Int32) (wbf : Nat → Int32) (wcf : Nat → Int32) (wlf : Nat → Int64)  : Option (Int32 × Int32 × Int32 × Int32 × Int32 × Int32 × (Nat → Int32) × (Nat → Int32) × (Nat → Int64)) :=
  bd1 (f_Mo_has (1 : Int32) win wat) (fun r182 => (if r182 = 0 then bd2 (f_Mo_fault (1 : Int32) win) (fun r194 wpl_194 => (some (r194, wpl_194, wbn, wcn, wat, wnu, wbf, wcf, wlf) : Option (Int32 × Int32 × Int32 × Int32 × Int32 × Int32 × (Nat → Int32) × (Nat → Int32) × (Nat → Int64)))) else as_ (vp_in wat 8000) (bd2 (f_Mo_sumOf N 8000 x2 wat wlf wif) (fun r218 wlf_218 => (if (lg_cmp ((wif wat.toNatClampNeg).toInt64) ((sr64 r218 (8 : Int32)) &&& (255 : Int64))) = 0 then (loop9 (b_Mo_readFrame_262 N x1 x3 x4 x5 wcn win whn wif whf ) N (1 : Int32) wpl wbn wcn (wat + (1 : Int32)) wnu wbf wcf wlf_218) else bd2 (f_Mo_fault (6 : Int32) wat) (fun r239 wpl_239 => (some (r239, wpl_239, wbn, wcn, wat, wnu, wbf, wcf, wlf_218) : Option (Int32 × Int32 × Int32 × Int32 × Int32 × Int32 × (Nat → Int32) × (Nat → Int32) × (Nat → Int64)))))))))
set_option maxHeartbeats 4000000 in
set_option maxRecDepth 100000 in
theorem k_Mo_readFrame_180 {r_z : Int32} {wpl_z : Int32} {wbn_z : Int32} {wcn_z : Int32} {wat_z : Int32} {wnu_z : Int32} {wbf_z : Nat → Int32} {wcf_z : Nat → Int32} {wlf_z : Nat → Int64} (C : Fx p s m args meth c cd_Mo_readFrame 11 R_Mo lw_g (some .int)) (hK : va_K (dC, dI) vwCl [(cB, .byte), (cI, .int), (cJ, .long)] s) (hA : ∀ q, s.heap.size ≤ q → A q) (x1 : Int32) (x2 : Int32) (x3 : Int32) (x4 : Int32) (x5 : Int32) (win : Int32) (won : Int32) (whn : Int32) (wpl : Int32) (wdn : Int32) (wfo : Int32) (wmn : Int32) (wpn : Int32) (wbn : Int32) (wcn : Int32) (wat : Int32) (wnu : Int32) (wif : Nat → Int32) (whf : Nat → Int32) (wbf : Nat → Int32) (wcf : Nat → Int32) (wlf : Nat → Int64)  (hf : j_Mo_readFrame_180 N x1 x2 x3 x4 x5 win whn wpl wbn wcn wat wnu wif whf wbf wcf wlf  = some (r_z, wpl_z, wbn_z, wcn_z, wat_z, wnu_z, wbf_z, wcf_z, wlf_z)) (hP : va_P (dC, dI) vwCl (wd_Mo_readFrame w wi wh wb wc wl wo wd wm wp cB cI cJ win won whn wpl wdn wfo wmn wpn wbn wcn wat wnu wif whf wbf wcf wlf) H) (hD : va_D A (wd_Mo_readFrame w wi wh wb wc wl wo wd wm wp cB cI cJ win won whn wpl wdn wfo wmn wpn wbn wcn wat wnu wif whf wbf wcf wlf)) (hS : va_S A s.heap H locs) (hl : lv_has ls 11 [(0, .ref w), (1, .int x1), (2, .int x2), (3, .int x3), (4, .int x4), (5, .int x5)]) : W p l e rm_Mo_readFrame s m args below meth c H locs 0 0 (MQ below (sQi (dC, dI) vwCl [(cB, .byte), (cI, .int), (cJ, .long)] A r_z (wd_Mo_readFrame w wi wh wb wc wl wo wd wm wp cB cI cJ win won whn wpl_z wdn wfo wmn wpn wbn_z wcn_z wat_z wnu_z wif whf wbf_z wcf_z wlf_z)) args s 0 0 A) (F0 m 180 ls []) := by
  obtain ⟨hx, hb, hml, hown, hts, hr, hlocks, hZ⟩ := id C
  unfold j_Mo_readFrame_180 at hf
  refine lv_aload_n hx hb d_Mo_readFrame_180 rfl (lv_at hl 0 rfl) ?_
  refine lv_iconst (v := 1) hx hb d_Mo_readFrame_181 (by decide) ?_
  obtain ⟨r182, hc182, hf⟩ := bd1_some hf
  refine s_Vi (As := [.int (1 : Int32)]) (rest := []) (wr := [(wi, .inl (cI, 8000, .inl wif)), (wh, .inl (cI, 8000, .inl whf)), (wb, .inl (cI, 16000, .inl wbf)), (wc, .inl (cI, 8000, .inl wcf)), (wl, .inl (cJ, 4, .inr (.inl wlf)))]) (ws' := wd_Mo_readFrame w wi wh wb wc wl wo wd wm wp cB cI cJ win won whn wpl wdn wfo wmn wpn wbn wcn wat wnu wif whf wbf wcf wlf) C.call (c_Mo_has l dC dI cB cI cJ w wi wo wh wd wm wp wb wc wl  win won whn wpl wdn wfo wmn wpn wbn wcn wat wnu (1 : Int32) hc182) (cwV 1 hts (gd_V w_464 w_465 w_466 w_357 w_467) rfl rfl rfl ⟨rfl, hd_Mo_has⟩ ⟨Nat.le_of_ble_eq_true rfl, Nat.le_of_ble_eq_true rfl⟩) rfl hl.1 rfl (Nat.le_of_ble_eq_true rfl) d_Mo_readFrame_182 ⟨Nat.le_of_ble_eq_true rfl, Nat.le_of_ble_eq_true rfl⟩ hZ hK hP hD hS hA 7 0 rfl rfl [0] [1, 2, 3, 4, 5] [5, 0, 1, 2, 3, 4] rfl rfl rfl rfl (by decide) rfl rfl (fun H locs hP hD hS => ?_)
  refine lv_if_ne (tgt := 198) hx hb d_Mo_readFrame_185 (by decide) (fun c_185 => ?_) (fun c_185 => ?_)
  · have hf := br_neg c_185 hf
    refine lv_aload_n hx hb d_Mo_readFrame_198 rfl (lv_at hl 0 rfl) ?_
    refine va_get (D := (dC, dI)) (ci := 7) (v := .ref wi) (C := R_Mo) (T := T_Mo) (N := 21) hx hb hts w_351 hown hK hP 0 rfl rfl 0 (by decide) (hts _ w_361) (fun _ h9 => h9) rfl d_Mo_readFrame_199 ?_
    refine lv_aload_n hx hb d_Mo_readFrame_202 rfl (lv_at hl 0 rfl) ?_
    refine va_get (D := (dC, dI)) (ci := 7) (v := .int wat) (C := R_Mo) (T := T_Mo) (N := 21) hx hb hts w_351 hown hK hP 0 rfl rfl 19 (by decide) (hts _ w_360) (fun _ h9 => h9) rfl d_Mo_readFrame_203 ?_
    obtain ⟨h_in, hf⟩ := as_some hf
    refine va_iald hx hb hK hP 1 1 rfl rfl h_in d_Mo_readFrame_206 ?_
    refine lv_i2l (v := ((wif wat.toNatClampNeg).toInt64)) hx hb d_Mo_readFrame_207 rfl ?_
    refine lv_aload_n hx hb d_Mo_readFrame_208 rfl (lv_at hl 0 rfl) ?_
    refine lv_aload_n hx hb d_Mo_readFrame_209 rfl (lv_at hl 0 rfl) ?_
    refine va_get (D := (dC, dI)) (ci := 7) (v := .ref wi) (C := R_Mo) (T := T_Mo) (N := 21) hx hb hts w_351 hown hK hP 0 rfl rfl 0 (by decide) (hts _ w_361) (fun _ h9 => h9) rfl d_Mo_readFrame_210 ?_
    refine lv_iload_n hx hb d_Mo_readFrame_213 rfl (lv_at hl 2 rfl) ?_
    refine lv_aload_n hx hb d_Mo_readFrame_214 rfl (lv_at hl 0 rfl) ?_
    refine va_get (D := (dC, dI)) (ci := 7) (v := .int wat) (C := R_Mo) (T := T_Mo) (N := 21) hx hb hts w_351 hown hK hP 0 rfl rfl 19 (by decide) (hts _ w_360) (fun _ h9 => h9) rfl d_Mo_readFrame_215 ?_
    obtain ⟨r218, wlf_218, hc218, hf⟩ := bd2_some hf
    refine s_Vl (As := [.ref wi, .int x2, .int wat]) (rest := [.long ((wif wat.toNatClampNeg).toInt64)]) (wr := [(wh, .inl (cI, 8000, .inl whf)), (wb, .inl (cI, 16000, .inl wbf)), (wc, .inl (cI, 8000, .inl wcf))]) (ws' := wd_Mo_readFrame w wi wh wb wc wl wo wd wm wp cB cI cJ win won whn wpl wdn wfo wmn wpn wbn wcn wat wnu wif whf wbf wcf wlf_218) C.call (c_Mo_sumOf l dC dI cB cI cJ w wl wi wi wo wh wd wm wp wb wc 8000 win won whn wpl wdn wfo wmn wpn wbn wcn wat wnu wlf wif x2 wat hc218) (cwV 3 hts (gd_V w_441 w_442 w_443 w_357 w_444) rfl rfl rfl ⟨rfl, hd_Mo_sumOf⟩ ⟨Nat.le_of_ble_eq_true rfl, Nat.le_of_ble_eq_true rfl⟩) rfl hl.1 rfl (Nat.le_of_ble_eq_true rfl) d_Mo_readFrame_218 ⟨Nat.le_of_ble_eq_true rfl, Nat.le_of_ble_eq_true rfl⟩ hZ hK hP hD hS hA 7 0 rfl rfl [0, 5, 1] [2, 3, 4] [3, 5, 0, 1, 2, 4] rfl rfl rfl rfl (by decide) rfl rfl (fun H locs hP hD hS => ?_)
    refine lv_bipush (v := 8) hx hb d_Mo_readFrame_221 (by decide) ?_
    refine lv_lshr (v := (sr64 r218 (8 : Int32))) hx hb d_Mo_readFrame_223 rfl ?_
    refine lv_ldc2 (v := 255) hx hb hown (hts _ w_412) d_Mo_readFrame_224 ?_
    refine lv_land hx hb d_Mo_readFrame_227 ?_
    refine W.lcmp hx hb d_Mo_readFrame_228 ?_
    refine lv_if_eq (tgt := 243) hx hb d_Mo_readFrame_229 (by decide) (fun c_229 => ?_) (fun c_229 => ?_)
    · have hf := br_pos c_229 hf
      refine lv_aload_n hx hb d_Mo_readFrame_243 rfl (lv_at hl 0 rfl) ?_
      refine lv_dup hx hb d_Mo_readFrame_244 rfl ?_
      refine va_get (D := (dC, dI)) (ci := 7) (v := .int wat) (C := R_Mo) (T := T_Mo) (N := 21) hx hb hts w_351 hown hK hP 0 rfl rfl 19 (by decide) (hts _ w_360) (fun _ h9 => h9) rfl d_Mo_readFrame_245 ?_
      refine lv_iconst (v := 1) hx hb d_Mo_readFrame_248 (by decide) ?_
      refine lv_iadd hx hb d_Mo_readFrame_249 ?_
      refine va_put (D := (dC, dI)) (ci := 7) (v := .int (wat + (1 : Int32))) (ty := .int) (C := R_Mo) (T := T_Mo) (N := 21) hx hb hts w_351 ty_Mo ty_Mo_ok nm_Mo hown hK hP hD hS 0 rfl rfl 19 (by decide) (hts _ w_360) (fun _ h9 => h9) rfl (by decide +kernel) rfl rfl (Nat.le_of_ble_eq_true rfl) d_Mo_readFrame_250 (fun H locs hP hD hS => ?_)
      have hP : va_P (dC, dI) vwCl (wd_Mo_readFrame w wi wh wb wc wl wo wd wm wp cB cI cJ win won whn wpl wdn wfo wmn wpn wbn wcn (wat + (1 : Int32)) wnu wif whf wbf wcf wlf_218) H := hP
      have hD : va_D A (wd_Mo_readFrame w wi wh wb wc wl wo wd wm wp cB cI cJ win won whn wpl wdn wfo wmn wpn wbn wcn (wat + (1 : Int32)) wnu wif whf wbf wcf wlf_218) := hD
      refine lv_aload_n hx hb d_Mo_readFrame_253 rfl (lv_at hl 0 rfl) ?_
      refine va_get (D := (dC, dI)) (ci := 7) (v := .int wcn) (C := R_Mo) (T := T_Mo) (N := 21) hx hb hts w_351 hown hK hP 0 rfl rfl 17 (by decide) (hts _ w_450) (fun _ h9 => h9) rfl d_Mo_readFrame_254 ?_
      refine lv_istore (lv' := [(6, .int wcn), (0, .ref w), (1, .int x1), (2, .int x2), (3, .int x3), (4, .int x4), (5, .int x5)]) hx hb d_Mo_readFrame_257 hl (by decide) rfl (fun ls hl => ?_)
      refine lv_iconst (v := 1) hx hb d_Mo_readFrame_259 (by decide) ?_
      refine lv_istore (lv' := [(7, .int (1 : Int32)), (6, .int wcn), (0, .ref w), (1, .int x1), (2, .int x2), (3, .int x3), (4, .int x4), (5, .int x5)]) hx hb d_Mo_readFrame_260 hl (by decide) rfl (fun ls hl => ?_)
      exact k_Mo_readFrame_262 C hK hA x1 x3 x4 x5 wcn win won whn wdn wfo wmn wpn wif whf  N (1 : Int32) wpl wbn wcn (wat + (1 : Int32)) wnu wbf wcf wlf_218 hf _ _ hP hD hS _ (lv_sub hl [2, 3, 5, 6, 7, 1, 0] rfl)
    · have hf := br_neg c_229 hf
      refine lv_aload_n hx hb d_Mo_readFrame_232 rfl (lv_at hl 0 rfl) ?_
      refine lv_bipush (v := 6) hx hb d_Mo_readFrame_233 (by decide) ?_
      refine lv_aload_n hx hb d_Mo_readFrame_235 rfl (lv_at hl 0 rfl) ?_
      refine va_get (D := (dC, dI)) (ci := 7) (v := .int wat) (C := R_Mo) (T := T_Mo) (N := 21) hx hb hts w_351 hown hK hP 0 rfl rfl 19 (by decide) (hts _ w_360) (fun _ h9 => h9) rfl d_Mo_readFrame_236 ?_
      obtain ⟨r239, wpl_239, hc239, hf⟩ := bd2_some hf
      refine s_Vi (As := [.int (6 : Int32), .int wat]) (rest := []) (wr := [(wi, .inl (cI, 8000, .inl wif)), (wh, .inl (cI, 8000, .inl whf)), (wb, .inl (cI, 16000, .inl wbf)), (wc, .inl (cI, 8000, .inl wcf)), (wl, .inl (cJ, 4, .inr (.inl wlf_218)))]) (ws' := wd_Mo_readFrame w wi wh wb wc wl wo wd wm wp cB cI cJ win won whn wpl_239 wdn wfo wmn wpn wbn wcn wat wnu wif whf wbf wcf wlf_218) C.call (c_Mo_fault l dC dI cB cI cJ w wi wo wh wd wm wp wb wc wl  win won whn wpl wdn wfo wmn wpn wbn wcn wat wnu (6 : Int32) wat hc239) (cwV 2 hts (gd_V w_460 w_461 w_462 w_357 w_463) rfl rfl rfl ⟨rfl, hd_Mo_fault⟩ ⟨Nat.le_of_ble_eq_true rfl, Nat.le_of_ble_eq_true rfl⟩) rfl hl.1 rfl (Nat.le_of_ble_eq_true rfl) d_Mo_readFrame_239 ⟨Nat.le_of_ble_eq_true rfl, Nat.le_of_ble_eq_true rfl⟩ hZ hK hP hD hS hA 7 0 rfl rfl [0] [1, 2, 3, 4, 5] [5, 0, 1, 2, 3, 4] rfl rfl rfl rfl (by decide) rfl rfl (fun H locs hP hD hS => ?_)
      cases hf
      exact s_iret hx hb hr hlocks hP hK hD hS d_Mo_readFrame_242
  · have hf := br_pos c_185 hf
    refine lv_aload_n hx hb d_Mo_readFrame_188 rfl (lv_at hl 0 rfl) ?_
    refine lv_iconst (v := 1) hx hb d_Mo_readFrame_189 (by decide) ?_
    refine lv_aload_n hx hb d_Mo_readFrame_190 rfl (lv_at hl 0 rfl) ?_
    refine va_get (D := (dC, dI)) (ci := 7) (v := .int win) (C := R_Mo) (T := T_Mo) (N := 21) hx hb hts w_351 hown hK hP 0 rfl rfl 3 (by decide) (hts _ w_362) (fun _ h9 => h9) rfl d_Mo_readFrame_191 ?_
    obtain ⟨r194, wpl_194, hc194, hf⟩ := bd2_some hf
    refine s_Vi (As := [.int (1 : Int32), .int win]) (rest := []) (wr := [(wi, .inl (cI, 8000, .inl wif)), (wh, .inl (cI, 8000, .inl whf)), (wb, .inl (cI, 16000, .inl wbf)), (wc, .inl (cI, 8000, .inl wcf)), (wl, .inl (cJ, 4, .inr (.inl wlf)))]) (ws' := wd_Mo_readFrame w wi wh wb wc wl wo wd wm wp cB cI cJ win won whn wpl_194 wdn wfo wmn wpn wbn wcn wat wnu wif whf wbf wcf wlf) C.call (c_Mo_fault l dC dI cB cI cJ w wi wo wh wd wm wp wb wc wl  win won whn wpl wdn wfo wmn wpn wbn wcn wat wnu (1 : Int32) win hc194) (cwV 2 hts (gd_V w_460 w_461 w_462 w_357 w_463) rfl rfl rfl ⟨rfl, hd_Mo_fault⟩ ⟨Nat.le_of_ble_eq_true rfl, Nat.le_of_ble_eq_true rfl⟩) rfl hl.1 rfl (Nat.le_of_ble_eq_true rfl) d_Mo_readFrame_194 ⟨Nat.le_of_ble_eq_true rfl, Nat.le_of_ble_eq_true rfl⟩ hZ hK hP hD hS hA 7 0 rfl rfl [0] [1, 2, 3, 4, 5] [5, 0, 1, 2, 3, 4] rfl rfl rfl rfl (by decide) rfl rfl (fun H locs hP hD hS => ?_)
    cases hf
    exact s_iret hx hb hr hlocks hP hK hD hS d_Mo_readFrame_197
noncomputable def j_Mo_readFrame_164 (N : Nat) (x1 : Int32) (x2 : Int32) (x3 : Int32) (x4 : Int32) (x5 : Int32) (win : Int32) (whn : Int32) (wpl : Int32) (wbn : Int32) (wcn : Int32) (wat : Int32) (wnu : Int32) (wif : Nat → Int32) (whf : Nat → Int32) (wbf : Nat → Int32) (wcf : Nat → Int32) (wlf : Nat → Int64)  : Option (Int32 × Int32 × Int32 × Int32 × Int32 × Int32 × (Nat → Int32) × (Nat → Int32) × (Nat → Int64)) :=
  (if (x3 &&& (1 : Int32)) = 0 then (j_Mo_readFrame_180 N x1 x2 x3 x4 x5 win whn wpl wbn wcn wat wnu wif whf wbf wcf wlf ) else (j_Mo_readFrame_180 N x1 x2 x3 x4 x5 win whn wpl wbn wcn (wat + (4 : Int32)) wnu wif whf wbf wcf wlf ))
set_option maxHeartbeats 4000000 in
set_option maxRecDepth 100000 in
theorem k_Mo_readFrame_164 {r_z : Int32} {wpl_z : Int32} {wbn_z : Int32} {wcn_z : Int32} {wat_z : Int32} {wnu_z : Int32} {wbf_z : Nat → Int32} {wcf_z : Nat → Int32} {wlf_z : Nat → Int64} (C : Fx p s m args meth c cd_Mo_readFrame 11 R_Mo lw_g (some .int)) (hK : va_K (dC, dI) vwCl [(cB, .byte), (cI, .int), (cJ, .long)] s) (hA : ∀ q, s.heap.size ≤ q → A q) (x1 : Int32) (x2 : Int32) (x3 : Int32) (x4 : Int32) (x5 : Int32) (win : Int32) (won : Int32) (whn : Int32) (wpl : Int32) (wdn : Int32) (wfo : Int32) (wmn : Int32) (wpn : Int32) (wbn : Int32) (wcn : Int32) (wat : Int32) (wnu : Int32) (wif : Nat → Int32) (whf : Nat → Int32) (wbf : Nat → Int32) (wcf : Nat → Int32) (wlf : Nat → Int64)  (hf : j_Mo_readFrame_164 N x1 x2 x3 x4 x5 win whn wpl wbn wcn wat wnu wif whf wbf wcf wlf  = some (r_z, wpl_z, wbn_z, wcn_z, wat_z, wnu_z, wbf_z, wcf_z, wlf_z)) (hP : va_P (dC, dI) vwCl (wd_Mo_readFrame w wi wh wb wc wl wo wd wm wp cB cI cJ win won whn wpl wdn wfo wmn wpn wbn wcn wat wnu wif whf wbf wcf wlf) H) (hD : va_D A (wd_Mo_readFrame w wi wh wb wc wl wo wd wm wp cB cI cJ win won whn wpl wdn wfo wmn wpn wbn wcn wat wnu wif whf wbf wcf wlf)) (hS : va_S A s.heap H locs) (hl : lv_has ls 11 [(0, .ref w), (1, .int x1), (2, .int x2), (3, .int x3), (4, .int x4), (5, .int x5)]) : W p l e rm_Mo_readFrame s m args below meth c H locs 0 0 (MQ below (sQi (dC, dI) vwCl [(cB, .byte), (cI, .int), (cJ, .long)] A r_z (wd_Mo_readFrame w wi wh wb wc wl wo wd wm wp cB cI cJ win won whn wpl_z wdn wfo wmn wpn wbn_z wcn_z wat_z wnu_z wif whf wbf_z wcf_z wlf_z)) args s 0 0 A) (F0 m 164 ls []) := by
  obtain ⟨hx, hb, hml, hown, hts, hr, hlocks, hZ⟩ := id C
  unfold j_Mo_readFrame_164 at hf
  refine lv_iload_n hx hb d_Mo_readFrame_164 rfl (lv_at hl 3 rfl) ?_
  refine lv_iconst (v := 1) hx hb d_Mo_readFrame_165 (by decide) ?_
  refine lv_iand hx hb d_Mo_readFrame_166 ?_
  refine lv_if_eq (tgt := 180) hx hb d_Mo_readFrame_167 (by decide) (fun c_167 => ?_) (fun c_167 => ?_)
  · have hf := br_pos c_167 hf
    exact k_Mo_readFrame_180 C hK hA x1 x2 x3 x4 x5 win won whn wpl wdn wfo wmn wpn wbn wcn wat wnu wif whf wbf wcf wlf  hf hP hD hS (lv_sub hl [0, 1, 2, 3, 4, 5] rfl)
  · have hf := br_neg c_167 hf
    refine lv_aload_n hx hb d_Mo_readFrame_170 rfl (lv_at hl 0 rfl) ?_
    refine lv_dup hx hb d_Mo_readFrame_171 rfl ?_
    refine va_get (D := (dC, dI)) (ci := 7) (v := .int wat) (C := R_Mo) (T := T_Mo) (N := 21) hx hb hts w_351 hown hK hP 0 rfl rfl 19 (by decide) (hts _ w_360) (fun _ h9 => h9) rfl d_Mo_readFrame_172 ?_
    refine lv_iconst (v := 4) hx hb d_Mo_readFrame_175 (by decide) ?_
    refine lv_iadd hx hb d_Mo_readFrame_176 ?_
    refine va_put (D := (dC, dI)) (ci := 7) (v := .int (wat + (4 : Int32))) (ty := .int) (C := R_Mo) (T := T_Mo) (N := 21) hx hb hts w_351 ty_Mo ty_Mo_ok nm_Mo hown hK hP hD hS 0 rfl rfl 19 (by decide) (hts _ w_360) (fun _ h9 => h9) rfl (by decide +kernel) rfl rfl (Nat.le_of_ble_eq_true rfl) d_Mo_readFrame_177 (fun H locs hP hD hS => ?_)
    have hP : va_P (dC, dI) vwCl (wd_Mo_readFrame w wi wh wb wc wl wo wd wm wp cB cI cJ win won whn wpl wdn wfo wmn wpn wbn wcn (wat + (4 : Int32)) wnu wif whf wbf wcf wlf) H := hP
    have hD : va_D A (wd_Mo_readFrame w wi wh wb wc wl wo wd wm wp cB cI cJ win won whn wpl wdn wfo wmn wpn wbn wcn (wat + (4 : Int32)) wnu wif whf wbf wcf wlf) := hD
    exact k_Mo_readFrame_180 C hK hA x1 x2 x3 x4 x5 win won whn wpl wdn wfo wmn wpn wbn wcn (wat + (4 : Int32)) wnu wif whf wbf wcf wlf  hf hP hD hS (lv_sub hl [0, 1, 2, 3, 4, 5] rfl)
noncomputable def j_Mo_readFrame_0 (N : Nat) (x1 : Int32) (win : Int32) (whn : Int32) (wpl : Int32) (wbn : Int32) (wcn : Int32) (wat : Int32) (wnu : Int32) (wif : Nat → Int32) (whf : Nat → Int32) (wbf : Nat → Int32) (wcf : Nat → Int32) (wlf : Nat → Int64)  : Option (Int32 × Int32 × Int32 × Int32 × Int32 × Int32 × (Nat → Int32) × (Nat → Int32) × (Nat → Int64)) :=
  bd1 (f_Mo_has (1 : Int32) win wat) (fun r7 => (if r7 = 0 then bd2 (f_Mo_fault (1 : Int32) win) (fun r19 wpl_19 => (some (r19, wpl_19, wbn, wcn, wat, wnu, wbf, wcf, wlf) : Option (Int32 × Int32 × Int32 × Int32 × Int32 × Int32 × (Nat → Int32) × (Nat → Int32) × (Nat → Int64)))) else as_ (vp_in wat 8000) (bd1 (f_Mo_areFlags (wif wat.toNatClampNeg)) (fun r34 => (if r34 = 0 then bd2 (f_Mo_fault (5 : Int32) wat) (fun r46 wpl_46 => (some (r46, wpl_46, wbn, wcn, wat, wnu, wbf, wcf, wlf) : Option (Int32 × Int32 × Int32 × Int32 × Int32 × Int32 × (Nat → Int32) × (Nat → Int32) × (Nat → Int64)))) else bd1 (f_Mo_has (1 : Int32) win (wat + (1 : Int32))) (fun r62 => (if r62 = 0 then bd2 (f_Mo_fault (1 : Int32) win) (fun r74 wpl_74 => (some (r74, wpl_74, wbn, wcn, (wat + (1 : Int32)), wnu, wbf, wcf, wlf) : Option (Int32 × Int32 × Int32 × Int32 × Int32 × Int32 × (Nat → Int32) × (Nat → Int32) × (Nat → Int64)))) else as_ (vp_in (wat + (1 : Int32)) 8000) ((if ((wif (wat + (1 : Int32)).toNatClampNeg) / (16 : Int32)) < (4 : Int32) then (j_Mo_readFrame_120 wbn wcn (wat + (1 : Int32)) wnu wbf wcf wlf ) else (if (7 : Int32) < ((wif (wat + (1 : Int32)).toNatClampNeg) / (16 : Int32)) then (j_Mo_readFrame_120 wbn wcn (wat + (1 : Int32)) wnu wbf wcf wlf ) else as_ (vp_in (wat + (1 : Int32)) 8000) ((if ((wif (wat + (1 : Int32)).toNatClampNeg) - (wif (wat + (1 : Int32)).toNatClampNeg) / (16 : Int32) * (16 : Int32)) = 0 then (if ((wif wat.toNatClampNeg) &&& (8 : Int32)) = 0 then (j_Mo_readFrame_164 N x1 wat (wif wat.toNatClampNeg) ((wif (wat + (1 : Int32)).toNatClampNeg) / (16 : Int32)) ((wat + (1 : Int32)) + (1 : Int32)) win whn wpl wbn wcn ((wat + (1 : Int32)) + (1 : Int32)) wnu wif whf wbf wcf wlf ) else (j_Mo_readFrame_164 N x1 wat (wif wat.toNatClampNeg) ((wif (wat + (1 : Int32)).toNatClampNeg) / (16 : Int32)) ((wat + (1 : Int32)) + (1 : Int32)) win whn wpl wbn wcn (((wat + (1 : Int32)) + (1 : Int32)) + (8 : Int32)) wnu wif whf wbf wcf wlf )) else (j_Mo_readFrame_120 wbn wcn (wat + (1 : Int32)) wnu wbf wcf wlf )))))))))))))
set_option maxHeartbeats 4000000 in
set_option maxRecDepth 100000 in
theorem k_Mo_readFrame_0 {r_z : Int32} {wpl_z : Int32} {wbn_z : Int32} {wcn_z : Int32} {wat_z : Int32} {wnu_z : Int32} {wbf_z : Nat → Int32} {wcf_z : Nat → Int32} {wlf_z : Nat → Int64} (C : Fx p s m args meth c cd_Mo_readFrame 11 R_Mo lw_g (some .int)) (hK : va_K (dC, dI) vwCl [(cB, .byte), (cI, .int), (cJ, .long)] s) (hA : ∀ q, s.heap.size ≤ q → A q) (x1 : Int32) (win : Int32) (won : Int32) (whn : Int32) (wpl : Int32) (wdn : Int32) (wfo : Int32) (wmn : Int32) (wpn : Int32) (wbn : Int32) (wcn : Int32) (wat : Int32) (wnu : Int32) (wif : Nat → Int32) (whf : Nat → Int32) (wbf : Nat → Int32) (wcf : Nat → Int32) (wlf : Nat → Int64)  (hf : j_Mo_readFrame_0 N x1 win whn wpl wbn wcn wat wnu wif whf wbf wcf wlf  = some (r_z, wpl_z, wbn_z, wcn_z, wat_z, wnu_z, wbf_z, wcf_z, wlf_z)) (hP : va_P (dC, dI) vwCl (wd_Mo_readFrame w wi wh wb wc wl wo wd wm wp cB cI cJ win won whn wpl wdn wfo wmn wpn wbn wcn wat wnu wif whf wbf wcf wlf) H) (hD : va_D A (wd_Mo_readFrame w wi wh wb wc wl wo wd wm wp cB cI cJ win won whn wpl wdn wfo wmn wpn wbn wcn wat wnu wif whf wbf wcf wlf)) (hS : va_S A s.heap H locs) (hl : lv_has ls 11 [(0, .ref w), (1, .int x1)]) : W p l e rm_Mo_readFrame s m args below meth c H locs 0 0 (MQ below (sQi (dC, dI) vwCl [(cB, .byte), (cI, .int), (cJ, .long)] A r_z (wd_Mo_readFrame w wi wh wb wc wl wo wd wm wp cB cI cJ win won whn wpl_z wdn wfo wmn wpn wbn_z wcn_z wat_z wnu_z wif whf wbf_z wcf_z wlf_z)) args s 0 0 A) (F0 m 0 ls []) := by
  obtain ⟨hx, hb, hml, hown, hts, hr, hlocks, hZ⟩ := id C
  unfold j_Mo_readFrame_0 at hf
  refine lv_aload_n hx hb d_Mo_readFrame_0 rfl (lv_at hl 0 rfl) ?_
  refine va_get (D := (dC, dI)) (ci := 7) (v := .int wat) (C := R_Mo) (T := T_Mo) (N := 21) hx hb hts w_351 hown hK hP 0 rfl rfl 19 (by decide) (hts _ w_360) (fun _ h9 => h9) rfl d_Mo_readFrame_1 ?_
  refine lv_istore_n (lv' := [(2, .int wat), (0, .ref w), (1, .int x1)]) hx hb d_Mo_readFrame_4 rfl hl (by decide) rfl (fun ls hl => ?_)
  refine lv_aload_n hx hb d_Mo_readFrame_5 rfl (lv_at hl 1 rfl) ?_
  refine lv_iconst (v := 1) hx hb d_Mo_readFrame_6 (by decide) ?_
  obtain ⟨r7, hc7, hf⟩ := bd1_some hf
  refine s_Vi (As := [.int (1 : Int32)]) (rest := []) (wr := [(wi, .inl (cI, 8000, .inl wif)), (wh, .inl (cI, 8000, .inl whf)), (wb, .inl (cI, 16000, .inl wbf)), (wc, .inl (cI, 8000, .inl wcf)), (wl, .inl (cJ, 4, .inr (.inl wlf)))]) (ws' := wd_Mo_readFrame w wi wh wb wc wl wo wd wm wp cB cI cJ win won whn wpl wdn wfo wmn wpn wbn wcn wat wnu wif whf wbf wcf wlf) C.call (c_Mo_has l dC dI cB cI cJ w wi wo wh wd wm wp wb wc wl  win won whn wpl wdn wfo wmn wpn wbn wcn wat wnu (1 : Int32) hc7) (cwV 1 hts (gd_V w_464 w_465 w_466 w_357 w_467) rfl rfl rfl ⟨rfl, hd_Mo_has⟩ ⟨Nat.le_of_ble_eq_true rfl, Nat.le_of_ble_eq_true rfl⟩) rfl hl.1 rfl (Nat.le_of_ble_eq_true rfl) d_Mo_readFrame_7 ⟨Nat.le_of_ble_eq_true rfl, Nat.le_of_ble_eq_true rfl⟩ hZ hK hP hD hS hA 7 0 rfl rfl [0] [1, 2, 3, 4, 5] [5, 0, 1, 2, 3, 4] rfl rfl rfl rfl (by decide) rfl rfl (fun H locs hP hD hS => ?_)
  refine lv_if_ne (tgt := 23) hx hb d_Mo_readFrame_10 (by decide) (fun c_10 => ?_) (fun c_10 => ?_)
  · have hf := br_neg c_10 hf
    refine lv_aload_n hx hb d_Mo_readFrame_23 rfl (lv_at hl 1 rfl) ?_
    refine va_get (D := (dC, dI)) (ci := 7) (v := .ref wi) (C := R_Mo) (T := T_Mo) (N := 21) hx hb hts w_351 hown hK hP 0 rfl rfl 0 (by decide) (hts _ w_361) (fun _ h9 => h9) rfl d_Mo_readFrame_24 ?_
    refine lv_aload_n hx hb d_Mo_readFrame_27 rfl (lv_at hl 1 rfl) ?_
    refine va_get (D := (dC, dI)) (ci := 7) (v := .int wat) (C := R_Mo) (T := T_Mo) (N := 21) hx hb hts w_351 hown hK hP 0 rfl rfl 19 (by decide) (hts _ w_360) (fun _ h9 => h9) rfl d_Mo_readFrame_28 ?_
    obtain ⟨h_in, hf⟩ := as_some hf
    refine va_iald hx hb hK hP 1 1 rfl rfl h_in d_Mo_readFrame_31 ?_
    refine lv_istore_n (lv' := [(3, .int (wif wat.toNatClampNeg)), (2, .int wat), (0, .ref w), (1, .int x1)]) hx hb d_Mo_readFrame_32 rfl hl (by decide) rfl (fun ls hl => ?_)
    refine lv_iload_n hx hb d_Mo_readFrame_33 rfl (lv_at hl 0 rfl) ?_
    obtain ⟨r34, hc34, hf⟩ := bd1_some hf
    refine s_Si (As := [.int (wif wat.toNatClampNeg)]) (rest := []) (wr := [(w, .inr (7, [.ref wi, .ref wo, .ref wh, .int win, .int won, .int whn, .int wpl, .ref wd, .int wdn, .int wfo, .ref wm, .int wmn, .ref wp, .int wpn, .ref wb, .int wbn, .ref wc, .int wcn, .ref wl, .int wat, .int wnu])), (wi, .inl (cI, 8000, .inl wif)), (wh, .inl (cI, 8000, .inl whf)), (wb, .inl (cI, 16000, .inl wbf)), (wc, .inl (cI, 8000, .inl wcf)), (wl, .inl (cJ, 4, .inr (.inl wlf)))]) (ws' := wd_Mo_readFrame w wi wh wb wc wl wo wd wm wp cB cI cJ win won whn wpl wdn wfo wmn wpn wbn wcn wat wnu wif whf wbf wcf wlf) C.call (c_Mo_areFlags l dC dI cB cI cJ    (wif wat.toNatClampNeg) hc34) (va_cwS 1 hts (gd_S w_433 w_434 w_357 w_435) rfl rfl rfl hd_Mo_areFlags ⟨Nat.le_of_ble_eq_true rfl, Nat.le_of_ble_eq_true rfl⟩) rfl hl.1 rfl (Nat.le_of_ble_eq_true rfl) d_Mo_readFrame_34 ⟨Nat.le_of_ble_eq_true rfl, Nat.le_of_ble_eq_true rfl⟩ hZ hK hP hD hS hA [] [0, 1, 2, 3, 4, 5] [0, 1, 2, 3, 4, 5] rfl rfl rfl rfl (by decide) rfl rfl (fun H locs hP hD hS => ?_)
    refine lv_if_ne (tgt := 50) hx hb d_Mo_readFrame_37 (by decide) (fun c_37 => ?_) (fun c_37 => ?_)
    · have hf := br_neg c_37 hf
      refine lv_aload_n hx hb d_Mo_readFrame_50 rfl (lv_at hl 2 rfl) ?_
      refine lv_dup hx hb d_Mo_readFrame_51 rfl ?_
      refine va_get (D := (dC, dI)) (ci := 7) (v := .int wat) (C := R_Mo) (T := T_Mo) (N := 21) hx hb hts w_351 hown hK hP 0 rfl rfl 19 (by decide) (hts _ w_360) (fun _ h9 => h9) rfl d_Mo_readFrame_52 ?_
      refine lv_iconst (v := 1) hx hb d_Mo_readFrame_55 (by decide) ?_
      refine lv_iadd hx hb d_Mo_readFrame_56 ?_
      refine va_put (D := (dC, dI)) (ci := 7) (v := .int (wat + (1 : Int32))) (ty := .int) (C := R_Mo) (T := T_Mo) (N := 21) hx hb hts w_351 ty_Mo ty_Mo_ok nm_Mo hown hK hP hD hS 0 rfl rfl 19 (by decide) (hts _ w_360) (fun _ h9 => h9) rfl (by decide +kernel) rfl rfl (Nat.le_of_ble_eq_true rfl) d_Mo_readFrame_57 (fun H locs hP hD hS => ?_)
      have hP : va_P (dC, dI) vwCl (wd_Mo_readFrame w wi wh wb wc wl wo wd wm wp cB cI cJ win won whn wpl wdn wfo wmn wpn wbn wcn (wat + (1 : Int32)) wnu wif whf wbf wcf wlf) H := hP
      have hD : va_D A (wd_Mo_readFrame w wi wh wb wc wl wo wd wm wp cB cI cJ win won whn wpl wdn wfo wmn wpn wbn wcn (wat + (1 : Int32)) wnu wif whf wbf wcf wlf) := hD
      refine lv_aload_n hx hb d_Mo_readFrame_60 rfl (lv_at hl 2 rfl) ?_
      refine lv_iconst (v := 1) hx hb d_Mo_readFrame_61 (by decide) ?_
      obtain ⟨r62, hc62, hf⟩ := bd1_some hf
      refine s_Vi (As := [.int (1 : Int32)]) (rest := []) (wr := [(wi, .inl (cI, 8000, .inl wif)), (wh, .inl (cI, 8000, .inl whf)), (wb, .inl (cI, 16000, .inl wbf)), (wc, .inl (cI, 8000, .inl wcf)), (wl, .inl (cJ, 4, .inr (.inl wlf)))]) (ws' := wd_Mo_readFrame w wi wh wb wc wl wo wd wm wp cB cI cJ win won whn wpl wdn wfo wmn wpn wbn wcn (wat + (1 : Int32)) wnu wif whf wbf wcf wlf) C.call (c_Mo_has l dC dI cB cI cJ w wi wo wh wd wm wp wb wc wl  win won whn wpl wdn wfo wmn wpn wbn wcn (wat + (1 : Int32)) wnu (1 : Int32) hc62) (cwV 1 hts (gd_V w_464 w_465 w_466 w_357 w_467) rfl rfl rfl ⟨rfl, hd_Mo_has⟩ ⟨Nat.le_of_ble_eq_true rfl, Nat.le_of_ble_eq_true rfl⟩) rfl hl.1 rfl (Nat.le_of_ble_eq_true rfl) d_Mo_readFrame_62 ⟨Nat.le_of_ble_eq_true rfl, Nat.le_of_ble_eq_true rfl⟩ hZ hK hP hD hS hA 7 0 rfl rfl [0] [1, 2, 3, 4, 5] [5, 0, 1, 2, 3, 4] rfl rfl rfl rfl (by decide) rfl rfl (fun H locs hP hD hS => ?_)
      refine lv_if_ne (tgt := 78) hx hb d_Mo_readFrame_65 (by decide) (fun c_65 => ?_) (fun c_65 => ?_)
      · have hf := br_neg c_65 hf
        refine lv_aload_n hx hb d_Mo_readFrame_78 rfl (lv_at hl 2 rfl) ?_
        refine va_get (D := (dC, dI)) (ci := 7) (v := .ref wi) (C := R_Mo) (T := T_Mo) (N := 21) hx hb hts w_351 hown hK hP 0 rfl rfl 0 (by decide) (hts _ w_361) (fun _ h9 => h9) rfl d_Mo_readFrame_79 ?_
        refine lv_aload_n hx hb d_Mo_readFrame_82 rfl (lv_at hl 2 rfl) ?_
        refine va_get (D := (dC, dI)) (ci := 7) (v := .int (wat + (1 : Int32))) (C := R_Mo) (T := T_Mo) (N := 21) hx hb hts w_351 hown hK hP 0 rfl rfl 19 (by decide) (hts _ w_360) (fun _ h9 => h9) rfl d_Mo_readFrame_83 ?_
        obtain ⟨h_in, hf⟩ := as_some hf
        refine va_iald hx hb hK hP 1 1 rfl rfl h_in d_Mo_readFrame_86 ?_
        refine lv_bipush (v := 16) hx hb d_Mo_readFrame_87 (by decide) ?_
        refine lv_idiv hx hb d_Mo_readFrame_89 (by decide) ?_
        refine lv_istore (lv' := [(4, .int ((wif (wat + (1 : Int32)).toNatClampNeg) / (16 : Int32))), (3, .int (wif wat.toNatClampNeg)), (2, .int wat), (0, .ref w), (1, .int x1)]) hx hb d_Mo_readFrame_90 hl (by decide) rfl (fun ls hl => ?_)
        refine lv_iload hx hb d_Mo_readFrame_92 (lv_at hl 0 rfl) ?_
        refine lv_iconst (v := 4) hx hb d_Mo_readFrame_94 (by decide) ?_
        refine lv_icmp_lt (tgt := 120) hx hb d_Mo_readFrame_95 (by decide) (fun c_95 => ?_) (fun c_95 => ?_)
        · have hf := br_pos c_95 hf
          exact k_Mo_readFrame_120 C hK hA win won whn wpl wdn wfo wmn wpn wbn wcn (wat + (1 : Int32)) wnu wif whf wbf wcf wlf  hf hP hD hS (lv_sub hl [3] rfl)
        · have hf := br_neg c_95 hf
          refine lv_iload hx hb d_Mo_readFrame_98 (lv_at hl 0 rfl) ?_
          refine lv_bipush (v := 7) hx hb d_Mo_readFrame_100 (by decide) ?_
          refine lv_icmp_gt (tgt := 120) hx hb d_Mo_readFrame_102 (by decide) (fun c_102 => ?_) (fun c_102 => ?_)
          · have hf := br_pos c_102 hf
            exact k_Mo_readFrame_120 C hK hA win won whn wpl wdn wfo wmn wpn wbn wcn (wat + (1 : Int32)) wnu wif whf wbf wcf wlf  hf hP hD hS (lv_sub hl [3] rfl)
          · have hf := br_neg c_102 hf
            refine lv_aload_n hx hb d_Mo_readFrame_105 rfl (lv_at hl 3 rfl) ?_
            refine va_get (D := (dC, dI)) (ci := 7) (v := .ref wi) (C := R_Mo) (T := T_Mo) (N := 21) hx hb hts w_351 hown hK hP 0 rfl rfl 0 (by decide) (hts _ w_361) (fun _ h9 => h9) rfl d_Mo_readFrame_106 ?_
            refine lv_aload_n hx hb d_Mo_readFrame_109 rfl (lv_at hl 3 rfl) ?_
            refine va_get (D := (dC, dI)) (ci := 7) (v := .int (wat + (1 : Int32))) (C := R_Mo) (T := T_Mo) (N := 21) hx hb hts w_351 hown hK hP 0 rfl rfl 19 (by decide) (hts _ w_360) (fun _ h9 => h9) rfl d_Mo_readFrame_110 ?_
            obtain ⟨h_in, hf⟩ := as_some hf
            refine va_iald hx hb hK hP 1 1 rfl rfl h_in d_Mo_readFrame_113 ?_
            refine lv_bipush (v := 16) hx hb d_Mo_readFrame_114 (by decide) ?_
            refine lv_irem hx hb d_Mo_readFrame_116 (by decide) ?_
            refine lv_if_eq (tgt := 130) hx hb d_Mo_readFrame_117 (by decide) (fun c_117 => ?_) (fun c_117 => ?_)
            · have hf := br_pos c_117 hf
              refine lv_aload_n hx hb d_Mo_readFrame_130 rfl (lv_at hl 3 rfl) ?_
              refine lv_dup hx hb d_Mo_readFrame_131 rfl ?_
              refine va_get (D := (dC, dI)) (ci := 7) (v := .int (wat + (1 : Int32))) (C := R_Mo) (T := T_Mo) (N := 21) hx hb hts w_351 hown hK hP 0 rfl rfl 19 (by decide) (hts _ w_360) (fun _ h9 => h9) rfl d_Mo_readFrame_132 ?_
              refine lv_iconst (v := 1) hx hb d_Mo_readFrame_135 (by decide) ?_
              refine lv_iadd hx hb d_Mo_readFrame_136 ?_
              refine va_put (D := (dC, dI)) (ci := 7) (v := .int ((wat + (1 : Int32)) + (1 : Int32))) (ty := .int) (C := R_Mo) (T := T_Mo) (N := 21) hx hb hts w_351 ty_Mo ty_Mo_ok nm_Mo hown hK hP hD hS 0 rfl rfl 19 (by decide) (hts _ w_360) (fun _ h9 => h9) rfl (by decide +kernel) rfl rfl (Nat.le_of_ble_eq_true rfl) d_Mo_readFrame_137 (fun H locs hP hD hS => ?_)
              have hP : va_P (dC, dI) vwCl (wd_Mo_readFrame w wi wh wb wc wl wo wd wm wp cB cI cJ win won whn wpl wdn wfo wmn wpn wbn wcn ((wat + (1 : Int32)) + (1 : Int32)) wnu wif whf wbf wcf wlf) H := hP
              have hD : va_D A (wd_Mo_readFrame w wi wh wb wc wl wo wd wm wp cB cI cJ win won whn wpl wdn wfo wmn wpn wbn wcn ((wat + (1 : Int32)) + (1 : Int32)) wnu wif whf wbf wcf wlf) := hD
              refine lv_aload_n hx hb d_Mo_readFrame_140 rfl (lv_at hl 3 rfl) ?_
              refine va_get (D := (dC, dI)) (ci := 7) (v := .int ((wat + (1 : Int32)) + (1 : Int32))) (C := R_Mo) (T := T_Mo) (N := 21) hx hb hts w_351 hown hK hP 0 rfl rfl 19 (by decide) (hts _ w_360) (fun _ h9 => h9) rfl d_Mo_readFrame_141 ?_
              refine lv_istore (lv' := [(5, .int ((wat + (1 : Int32)) + (1 : Int32))), (4, .int ((wif (wat + (1 : Int32)).toNatClampNeg) / (16 : Int32))), (3, .int (wif wat.toNatClampNeg)), (2, .int wat), (0, .ref w), (1, .int x1)]) hx hb d_Mo_readFrame_144 hl (by decide) rfl (fun ls hl => ?_)
              refine lv_iload_n hx hb d_Mo_readFrame_146 rfl (lv_at hl 2 rfl) ?_
              refine lv_bipush (v := 8) hx hb d_Mo_readFrame_147 (by decide) ?_
              refine lv_iand hx hb d_Mo_readFrame_149 ?_
              refine lv_if_eq (tgt := 164) hx hb d_Mo_readFrame_150 (by decide) (fun c_150 => ?_) (fun c_150 => ?_)
              · have hf := br_pos c_150 hf
                exact k_Mo_readFrame_164 C hK hA x1 wat (wif wat.toNatClampNeg) ((wif (wat + (1 : Int32)).toNatClampNeg) / (16 : Int32)) ((wat + (1 : Int32)) + (1 : Int32)) win won whn wpl wdn wfo wmn wpn wbn wcn ((wat + (1 : Int32)) + (1 : Int32)) wnu wif whf wbf wcf wlf  hf hP hD hS (lv_sub hl [4, 5, 3, 2, 1, 0] rfl)
              · have hf := br_neg c_150 hf
                refine lv_aload_n hx hb d_Mo_readFrame_153 rfl (lv_at hl 4 rfl) ?_
                refine lv_dup hx hb d_Mo_readFrame_154 rfl ?_
                refine va_get (D := (dC, dI)) (ci := 7) (v := .int ((wat + (1 : Int32)) + (1 : Int32))) (C := R_Mo) (T := T_Mo) (N := 21) hx hb hts w_351 hown hK hP 0 rfl rfl 19 (by decide) (hts _ w_360) (fun _ h9 => h9) rfl d_Mo_readFrame_155 ?_
                refine lv_bipush (v := 8) hx hb d_Mo_readFrame_158 (by decide) ?_
                refine lv_iadd hx hb d_Mo_readFrame_160 ?_
                refine va_put (D := (dC, dI)) (ci := 7) (v := .int (((wat + (1 : Int32)) + (1 : Int32)) + (8 : Int32))) (ty := .int) (C := R_Mo) (T := T_Mo) (N := 21) hx hb hts w_351 ty_Mo ty_Mo_ok nm_Mo hown hK hP hD hS 0 rfl rfl 19 (by decide) (hts _ w_360) (fun _ h9 => h9) rfl (by decide +kernel) rfl rfl (Nat.le_of_ble_eq_true rfl) d_Mo_readFrame_161 (fun H locs hP hD hS => ?_)
                have hP : va_P (dC, dI) vwCl (wd_Mo_readFrame w wi wh wb wc wl wo wd wm wp cB cI cJ win won whn wpl wdn wfo wmn wpn wbn wcn (((wat + (1 : Int32)) + (1 : Int32)) + (8 : Int32)) wnu wif whf wbf wcf wlf) H := hP
                have hD : va_D A (wd_Mo_readFrame w wi wh wb wc wl wo wd wm wp cB cI cJ win won whn wpl wdn wfo wmn wpn wbn wcn (((wat + (1 : Int32)) + (1 : Int32)) + (8 : Int32)) wnu wif whf wbf wcf wlf) := hD
                exact k_Mo_readFrame_164 C hK hA x1 wat (wif wat.toNatClampNeg) ((wif (wat + (1 : Int32)).toNatClampNeg) / (16 : Int32)) ((wat + (1 : Int32)) + (1 : Int32)) win won whn wpl wdn wfo wmn wpn wbn wcn (((wat + (1 : Int32)) + (1 : Int32)) + (8 : Int32)) wnu wif whf wbf wcf wlf  hf hP hD hS (lv_sub hl [4, 5, 3, 2, 1, 0] rfl)
            · have hf := br_neg c_117 hf
              exact k_Mo_readFrame_120 C hK hA win won whn wpl wdn wfo wmn wpn wbn wcn (wat + (1 : Int32)) wnu wif whf wbf wcf wlf  hf hP hD hS (lv_sub hl [3] rfl)
      · have hf := br_pos c_65 hf
        refine lv_aload_n hx hb d_Mo_readFrame_68 rfl (lv_at hl 2 rfl) ?_
        refine lv_iconst (v := 1) hx hb d_Mo_readFrame_69 (by decide) ?_
        refine lv_aload_n hx hb d_Mo_readFrame_70 rfl (lv_at hl 2 rfl) ?_
        refine va_get (D := (dC, dI)) (ci := 7) (v := .int win) (C := R_Mo) (T := T_Mo) (N := 21) hx hb hts w_351 hown hK hP 0 rfl rfl 3 (by decide) (hts _ w_362) (fun _ h9 => h9) rfl d_Mo_readFrame_71 ?_
        obtain ⟨r74, wpl_74, hc74, hf⟩ := bd2_some hf
        refine s_Vi (As := [.int (1 : Int32), .int win]) (rest := []) (wr := [(wi, .inl (cI, 8000, .inl wif)), (wh, .inl (cI, 8000, .inl whf)), (wb, .inl (cI, 16000, .inl wbf)), (wc, .inl (cI, 8000, .inl wcf)), (wl, .inl (cJ, 4, .inr (.inl wlf)))]) (ws' := wd_Mo_readFrame w wi wh wb wc wl wo wd wm wp cB cI cJ win won whn wpl_74 wdn wfo wmn wpn wbn wcn (wat + (1 : Int32)) wnu wif whf wbf wcf wlf) C.call (c_Mo_fault l dC dI cB cI cJ w wi wo wh wd wm wp wb wc wl  win won whn wpl wdn wfo wmn wpn wbn wcn (wat + (1 : Int32)) wnu (1 : Int32) win hc74) (cwV 2 hts (gd_V w_460 w_461 w_462 w_357 w_463) rfl rfl rfl ⟨rfl, hd_Mo_fault⟩ ⟨Nat.le_of_ble_eq_true rfl, Nat.le_of_ble_eq_true rfl⟩) rfl hl.1 rfl (Nat.le_of_ble_eq_true rfl) d_Mo_readFrame_74 ⟨Nat.le_of_ble_eq_true rfl, Nat.le_of_ble_eq_true rfl⟩ hZ hK hP hD hS hA 7 0 rfl rfl [0] [1, 2, 3, 4, 5] [5, 0, 1, 2, 3, 4] rfl rfl rfl rfl (by decide) rfl rfl (fun H locs hP hD hS => ?_)
        cases hf
        exact s_iret hx hb hr hlocks hP hK hD hS d_Mo_readFrame_77
    · have hf := br_pos c_37 hf
      refine lv_aload_n hx hb d_Mo_readFrame_40 rfl (lv_at hl 2 rfl) ?_
      refine lv_iconst (v := 5) hx hb d_Mo_readFrame_41 (by decide) ?_
      refine lv_aload_n hx hb d_Mo_readFrame_42 rfl (lv_at hl 2 rfl) ?_
      refine va_get (D := (dC, dI)) (ci := 7) (v := .int wat) (C := R_Mo) (T := T_Mo) (N := 21) hx hb hts w_351 hown hK hP 0 rfl rfl 19 (by decide) (hts _ w_360) (fun _ h9 => h9) rfl d_Mo_readFrame_43 ?_
      obtain ⟨r46, wpl_46, hc46, hf⟩ := bd2_some hf
      refine s_Vi (As := [.int (5 : Int32), .int wat]) (rest := []) (wr := [(wi, .inl (cI, 8000, .inl wif)), (wh, .inl (cI, 8000, .inl whf)), (wb, .inl (cI, 16000, .inl wbf)), (wc, .inl (cI, 8000, .inl wcf)), (wl, .inl (cJ, 4, .inr (.inl wlf)))]) (ws' := wd_Mo_readFrame w wi wh wb wc wl wo wd wm wp cB cI cJ win won whn wpl_46 wdn wfo wmn wpn wbn wcn wat wnu wif whf wbf wcf wlf) C.call (c_Mo_fault l dC dI cB cI cJ w wi wo wh wd wm wp wb wc wl  win won whn wpl wdn wfo wmn wpn wbn wcn wat wnu (5 : Int32) wat hc46) (cwV 2 hts (gd_V w_460 w_461 w_462 w_357 w_463) rfl rfl rfl ⟨rfl, hd_Mo_fault⟩ ⟨Nat.le_of_ble_eq_true rfl, Nat.le_of_ble_eq_true rfl⟩) rfl hl.1 rfl (Nat.le_of_ble_eq_true rfl) d_Mo_readFrame_46 ⟨Nat.le_of_ble_eq_true rfl, Nat.le_of_ble_eq_true rfl⟩ hZ hK hP hD hS hA 7 0 rfl rfl [0] [1, 2, 3, 4, 5] [5, 0, 1, 2, 3, 4] rfl rfl rfl rfl (by decide) rfl rfl (fun H locs hP hD hS => ?_)
      cases hf
      exact s_iret hx hb hr hlocks hP hK hD hS d_Mo_readFrame_49
  · have hf := br_pos c_10 hf
    refine lv_aload_n hx hb d_Mo_readFrame_13 rfl (lv_at hl 1 rfl) ?_
    refine lv_iconst (v := 1) hx hb d_Mo_readFrame_14 (by decide) ?_
    refine lv_aload_n hx hb d_Mo_readFrame_15 rfl (lv_at hl 1 rfl) ?_
    refine va_get (D := (dC, dI)) (ci := 7) (v := .int win) (C := R_Mo) (T := T_Mo) (N := 21) hx hb hts w_351 hown hK hP 0 rfl rfl 3 (by decide) (hts _ w_362) (fun _ h9 => h9) rfl d_Mo_readFrame_16 ?_
    obtain ⟨r19, wpl_19, hc19, hf⟩ := bd2_some hf
    refine s_Vi (As := [.int (1 : Int32), .int win]) (rest := []) (wr := [(wi, .inl (cI, 8000, .inl wif)), (wh, .inl (cI, 8000, .inl whf)), (wb, .inl (cI, 16000, .inl wbf)), (wc, .inl (cI, 8000, .inl wcf)), (wl, .inl (cJ, 4, .inr (.inl wlf)))]) (ws' := wd_Mo_readFrame w wi wh wb wc wl wo wd wm wp cB cI cJ win won whn wpl_19 wdn wfo wmn wpn wbn wcn wat wnu wif whf wbf wcf wlf) C.call (c_Mo_fault l dC dI cB cI cJ w wi wo wh wd wm wp wb wc wl  win won whn wpl wdn wfo wmn wpn wbn wcn wat wnu (1 : Int32) win hc19) (cwV 2 hts (gd_V w_460 w_461 w_462 w_357 w_463) rfl rfl rfl ⟨rfl, hd_Mo_fault⟩ ⟨Nat.le_of_ble_eq_true rfl, Nat.le_of_ble_eq_true rfl⟩) rfl hl.1 rfl (Nat.le_of_ble_eq_true rfl) d_Mo_readFrame_19 ⟨Nat.le_of_ble_eq_true rfl, Nat.le_of_ble_eq_true rfl⟩ hZ hK hP hD hS hA 7 0 rfl rfl [0] [1, 2, 3, 4, 5] [5, 0, 1, 2, 3, 4] rfl rfl rfl rfl (by decide) rfl rfl (fun H locs hP hD hS => ?_)
    cases hf
    exact s_iret hx hb hr hlocks hP hK hD hS d_Mo_readFrame_22
end
noncomputable abbrev f_Mo_readFrame (N : Nat) (x1 : Int32) (win : Int32) (whn : Int32) (wpl : Int32) (wbn : Int32) (wcn : Int32) (wat : Int32) (wnu : Int32) (wif : Nat → Int32) (whf : Nat → Int32) (wbf : Nat → Int32) (wcf : Nat → Int32) (wlf : Nat → Int64) : Option (Int32 × Int32 × Int32 × Int32 × Int32 × Int32 × (Nat → Int32) × (Nat → Int32) × (Nat → Int64)) := j_Mo_readFrame_0 N x1 win whn wpl wbn wcn wat wnu wif whf wbf wcf wlf
set_option maxRecDepth 100000 in
theorem c_Mo_readFrame {N : Nat} (l : Launch) (dC : Nat → ClassId) (dI : Nat → Nat → Nat) (cB cI cJ : ClassId) (w wi wh wb wc wl wo wd wm wp : Nat) (win : Int32) (won : Int32) (whn : Int32) (wpl : Int32) (wdn : Int32) (wfo : Int32) (wmn : Int32) (wpn : Int32) (wbn : Int32) (wcn : Int32) (wat : Int32) (wnu : Int32) (wif : Nat → Int32) (whf : Nat → Int32) (wbf : Nat → Int32) (wcf : Nat → Int32) (wlf : Nat → Int64) (x1 : Int32) {r_z : Int32} {wpl_z : Int32} {wbn_z : Int32} {wcn_z : Int32} {wat_z : Int32} {wnu_z : Int32} {wbf_z : Nat → Int32} {wcf_z : Nat → Int32} {wlf_z : Nat → Int64} (hf : f_Mo_readFrame N x1 win whn wpl wbn wcn wat wnu wif whf wbf wcf wlf = some (r_z, wpl_z, wbn_z, wcn_z, wat_z, wnu_z, wbf_z, wcf_z, wlf_z)) : MetI l y_Mo_readFrame ws_Mo_readFrame rm_Mo_readFrame (dC, dI) vwCl [(cB, .byte), (cI, .int), (cJ, .long)] [.ref w, .int x1] (wd_Mo_readFrame w wi wh wb wc wl wo wd wm wp cB cI cJ win won whn wpl wdn wfo wmn wpn wbn wcn wat wnu wif whf wbf wcf wlf) r_z (wd_Mo_readFrame w wi wh wb wc wl wo wd wm wp cB cI cJ win won whn wpl_z wdn wfo wmn wpn wbn_z wcn_z wat_z wnu_z wif whf wbf_z wcf_z wlf_z) 0 0 :=
  s_ofi (bytes := cd_Mo_readFrame) (maxL := 11) (ret := (some .int)) (by decide) rfl (Nat.le_of_ble_eq_true rfl) (fun p e s m below meth c A ls C hK hA hP hD hS hl => k_Mo_readFrame_0 C hK hA x1 win won whn wpl wdn wfo wmn wpn wbn wcn wat wnu wif whf wbf wcf wlf hf hP hD hS (lv_sub hl [0, 1] rfl))
