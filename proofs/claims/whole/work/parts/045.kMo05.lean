abbrev wd_Mo_has (w wi wo wh wd wm wp wb wc wl : Nat) (cB cI cJ : ClassId) (win : Int32) (won : Int32) (whn : Int32) (wpl : Int32) (wdn : Int32) (wfo : Int32) (wmn : Int32) (wpn : Int32) (wbn : Int32) (wcn : Int32) (wat : Int32) (wnu : Int32) : va_W := [(w, .inr (7, [.ref wi, .ref wo, .ref wh, .int win, .int won, .int whn, .int wpl, .ref wd, .int wdn, .int wfo, .ref wm, .int wmn, .ref wp, .int wpn, .ref wb, .int wbn, .ref wc, .int wcn, .ref wl, .int wat, .int wnu]))]
abbrev rm_Mo_has : Room := { frames := 0, cells := 0, slots := 0, locals := 0 }
section
variable {p : Program} {l : Launch} {e : Env} {s : State} {m : MethodId} {args : Array Value} {below : List Frame} {meth : Method} {c : Code} {dC : Nat → ClassId} {dI : Nat → Nat → Nat} {A : Nat → Prop} {cB cI cJ : ClassId} {H : Heap} {locs : List Loc} {ls : Array Slot} {N : Nat} {w wi wo wh wd wm wp wb wc wl : Nat}
noncomputable def j_Mo_has_0 (x1 : Int32) (win : Int32) (wat : Int32)  : Option (Int32) :=
  (if win < (wat + x1) then (some (0 : Int32) : Option (Int32)) else (some (1 : Int32) : Option (Int32)))
set_option maxHeartbeats 4000000 in
set_option maxRecDepth 100000 in
theorem k_Mo_has_0 {r_z : Int32} (C : Fx p s m args meth c cd_Mo_has 2 R_Mo lw_g (some .boolean)) (hK : va_K (dC, dI) vwCl [(cB, .byte), (cI, .int), (cJ, .long)] s) (hA : ∀ q, s.heap.size ≤ q → A q) (x1 : Int32) (win : Int32) (won : Int32) (whn : Int32) (wpl : Int32) (wdn : Int32) (wfo : Int32) (wmn : Int32) (wpn : Int32) (wbn : Int32) (wcn : Int32) (wat : Int32) (wnu : Int32)  (hf : j_Mo_has_0 x1 win wat  = some r_z) (hP : va_P (dC, dI) vwCl (wd_Mo_has w wi wo wh wd wm wp wb wc wl cB cI cJ win won whn wpl wdn wfo wmn wpn wbn wcn wat wnu) H) (hD : va_D A (wd_Mo_has w wi wo wh wd wm wp wb wc wl cB cI cJ win won whn wpl wdn wfo wmn wpn wbn wcn wat wnu)) (hS : va_S A s.heap H locs) (hl : lv_has ls 2 [(0, .ref w), (1, .int x1)]) : W p l e rm_Mo_has s m args below meth c H locs 0 0 (MQ below (sQi (dC, dI) vwCl [(cB, .byte), (cI, .int), (cJ, .long)] A r_z (wd_Mo_has w wi wo wh wd wm wp wb wc wl cB cI cJ win won whn wpl wdn wfo wmn wpn wbn wcn wat wnu)) args s 0 0 A) (F0 m 0 ls []) := by
  obtain ⟨hx, hb, hml, hown, hts, hr, hlocks, hZ⟩ := id C
  unfold j_Mo_has_0 at hf
  refine lv_aload_n hx hb d_Mo_has_0 rfl (lv_at hl 0 rfl) ?_
  refine va_get (D := (dC, dI)) (ci := 7) (v := .int wat) (C := R_Mo) (T := T_Mo) (N := 21) hx hb hts w_359 hown hK hP 0 rfl rfl 19 (by decide) (hts _ w_368) (fun _ h9 => h9) rfl d_Mo_has_1 ?_
  refine lv_iload_n hx hb d_Mo_has_4 rfl (lv_at hl 1 rfl) ?_
  refine lv_iadd hx hb d_Mo_has_5 ?_
  refine lv_aload_n hx hb d_Mo_has_6 rfl (lv_at hl 0 rfl) ?_
  refine va_get (D := (dC, dI)) (ci := 7) (v := .int win) (C := R_Mo) (T := T_Mo) (N := 21) hx hb hts w_359 hown hK hP 0 rfl rfl 3 (by decide) (hts _ w_370) (fun _ h9 => h9) rfl d_Mo_has_7 ?_
  refine lv_icmp_gt (tgt := 17) hx hb d_Mo_has_10 (by decide) (fun c_10 => ?_) (fun c_10 => ?_)
  · have hf := br_pos c_10 hf
    refine lv_iconst (v := 0) hx hb d_Mo_has_17 (by decide) ?_
    cases hf
    exact s_zret hx hb hr (by decide) hlocks hP hK hD hS d_Mo_has_18
  · have hf := br_neg c_10 hf
    refine lv_iconst (v := 1) hx hb d_Mo_has_13 (by decide) ?_
    refine lv_goto (tgt := 18) hx hb d_Mo_has_14 (by decide) ?_
    cases hf
    exact s_zret hx hb hr (by decide) hlocks hP hK hD hS d_Mo_has_18
end
noncomputable abbrev f_Mo_has (x1 : Int32) (win : Int32) (wat : Int32) : Option (Int32) := j_Mo_has_0 x1 win wat
set_option maxRecDepth 100000 in
theorem c_Mo_has (l : Launch) (dC : Nat → ClassId) (dI : Nat → Nat → Nat) (cB cI cJ : ClassId) (w wi wo wh wd wm wp wb wc wl : Nat) (win : Int32) (won : Int32) (whn : Int32) (wpl : Int32) (wdn : Int32) (wfo : Int32) (wmn : Int32) (wpn : Int32) (wbn : Int32) (wcn : Int32) (wat : Int32) (wnu : Int32) (x1 : Int32) {r_z : Int32} (hf : f_Mo_has x1 win wat = some r_z) : MetI l y_Mo_has ws_Mo_has rm_Mo_has (dC, dI) vwCl [(cB, .byte), (cI, .int), (cJ, .long)] [.ref w, .int x1] (wd_Mo_has w wi wo wh wd wm wp wb wc wl cB cI cJ win won whn wpl wdn wfo wmn wpn wbn wcn wat wnu) r_z (wd_Mo_has w wi wo wh wd wm wp wb wc wl cB cI cJ win won whn wpl wdn wfo wmn wpn wbn wcn wat wnu) 0 0 :=
  s_ofi (bytes := cd_Mo_has) (maxL := 2) (ret := (some .boolean)) (by decide) rfl (Nat.le_of_ble_eq_true rfl) (fun p e s m below meth c A ls C hK hA hP hD hS hl => k_Mo_has_0 C hK hA x1 win won whn wpl wdn wfo wmn wpn wbn wcn wat wnu hf hP hD hS (lv_sub hl [0, 1] rfl))

abbrev wd_Mo_numberAt (w wi wo wh wd wm wp wb wc wl : Nat) (cB cI cJ : ClassId) (win : Int32) (won : Int32) (whn : Int32) (wpl : Int32) (wdn : Int32) (wfo : Int32) (wmn : Int32) (wpn : Int32) (wbn : Int32) (wcn : Int32) (wat : Int32) (wnu : Int32) (wif : Nat → Int32) : va_W := [(w, .inr (7, [.ref wi, .ref wo, .ref wh, .int win, .int won, .int whn, .int wpl, .ref wd, .int wdn, .int wfo, .ref wm, .int wmn, .ref wp, .int wpn, .ref wb, .int wbn, .ref wc, .int wcn, .ref wl, .int wat, .int wnu])), (wi, .inl (cI, 8000, .inl wif))]
abbrev rm_Mo_numberAt : Room := { frames := 0, cells := 0, slots := 0, locals := 0 }
section
variable {p : Program} {l : Launch} {e : Env} {s : State} {m : MethodId} {args : Array Value} {below : List Frame} {meth : Method} {c : Code} {dC : Nat → ClassId} {dI : Nat → Nat → Nat} {A : Nat → Prop} {cB cI cJ : ClassId} {H : Heap} {locs : List Loc} {ls : Array Slot} {N : Nat} {w wi wo wh wd wm wp wb wc wl : Nat}
noncomputable def b_Mo_numberAt_7 (x1 : Int32) (wif : Nat → Int32)  (kh7 : Int64 → Int32 → Option (Int64)) (x3 : Int64) (x5 : Int32) : Option (Int64) :=
  (if x5 < 0 then (some x3 : Option (Int64)) else as_ (vp_in (x1 + x5) 8000) ((kh7 ((sl64 x3 (8 : Int32)) ||| ((wif (x1 + x5).toNatClampNeg).toInt64)) (x5 + (-1)))))
set_option maxHeartbeats 4000000 in
set_option maxRecDepth 100000 in
theorem k_Mo_numberAt_7 {r_z : Int64} (C : Fx p s m args meth c cd_Mo_numberAt 6 R_Mo lw_g (some .long)) (hK : va_K (dC, dI) vwCl [(cB, .byte), (cI, .int), (cJ, .long)] s) (hA : ∀ q, s.heap.size ≤ q → A q) (x1 : Int32) (win : Int32) (won : Int32) (whn : Int32) (wpl : Int32) (wdn : Int32) (wfo : Int32) (wmn : Int32) (wpn : Int32) (wbn : Int32) (wcn : Int32) (wat : Int32) (wnu : Int32) (wif : Nat → Int32)  : ∀ (n : Nat) (x3 : Int64) (x5 : Int32), loop2 (b_Mo_numberAt_7 x1 wif ) n x3 x5 = some r_z → ∀ (H : Heap) (locs : List Loc), va_P (dC, dI) vwCl (wd_Mo_numberAt w wi wo wh wd wm wp wb wc wl cB cI cJ win won whn wpl wdn wfo wmn wpn wbn wcn wat wnu wif) H → va_D A (wd_Mo_numberAt w wi wo wh wd wm wp wb wc wl cB cI cJ win won whn wpl wdn wfo wmn wpn wbn wcn wat wnu wif) → va_S A s.heap H locs → ∀ (ls : Array Slot), lv_has ls 6 [(0, .ref w), (1, .int x1), (3, .long x3), (5, .int x5)] → W p l e rm_Mo_numberAt s m args below meth c H locs 0 0 (MQ below (sQl (dC, dI) vwCl [(cB, .byte), (cI, .int), (cJ, .long)] A r_z (wd_Mo_numberAt w wi wo wh wd wm wp wb wc wl cB cI cJ win won whn wpl wdn wfo wmn wpn wbn wcn wat wnu wif)) args s 0 0 A) (F0 m 7 ls []) := by
  obtain ⟨hx, hb, hml, hown, hts, hr, hlocks, hZ⟩ := id C
  intro n
  induction n with
  | zero => intro x3 x5 hf; cases hf
  | succ n ih7 =>
    intro x3 x5 hf H locs hP hD hS ls hl
    have hf : b_Mo_numberAt_7 x1 wif  (loop2 (b_Mo_numberAt_7 x1 wif ) n) x3 x5 = some r_z := hf
    generalize loop2 (b_Mo_numberAt_7 x1 wif ) n = kh7 at hf ih7
    unfold b_Mo_numberAt_7 at hf
    refine lv_iload hx hb d_Mo_numberAt_7 (lv_at hl 3 rfl) ?_
    refine lv_if_lt (tgt := 34) hx hb d_Mo_numberAt_9 (by decide) (fun c_9 => ?_) (fun c_9 => ?_)
    · have hf := br_pos c_9 hf
      refine lv_lload_n hx hb d_Mo_numberAt_34 rfl (lv_at hl 2 rfl) ?_
      cases hf
      exact s_lret hx hb hr hlocks hP hK hD hS d_Mo_numberAt_35
    · have hf := br_neg c_9 hf
      refine lv_lload_n hx hb d_Mo_numberAt_12 rfl (lv_at hl 2 rfl) ?_
      refine lv_bipush (v := 8) hx hb d_Mo_numberAt_13 (by decide) ?_
      refine lv_lshl (v := (sl64 x3 (8 : Int32))) hx hb d_Mo_numberAt_15 rfl ?_
      refine lv_aload_n hx hb d_Mo_numberAt_16 rfl (lv_at hl 0 rfl) ?_
      refine va_get (D := (dC, dI)) (ci := 7) (v := .ref wi) (C := R_Mo) (T := T_Mo) (N := 21) hx hb hts w_359 hown hK hP 0 rfl rfl 0 (by decide) (hts _ w_369) (fun _ h9 => h9) rfl d_Mo_numberAt_17 ?_
      refine lv_iload_n hx hb d_Mo_numberAt_20 rfl (lv_at hl 1 rfl) ?_
      refine lv_iload hx hb d_Mo_numberAt_21 (lv_at hl 3 rfl) ?_
      refine lv_iadd hx hb d_Mo_numberAt_23 ?_
      obtain ⟨h_in, hf⟩ := as_some hf
      refine va_iald hx hb hK hP 1 1 rfl rfl h_in d_Mo_numberAt_24 ?_
      refine lv_i2l (v := ((wif (x1 + x5).toNatClampNeg).toInt64)) hx hb d_Mo_numberAt_25 rfl ?_
      refine lv_lor hx hb d_Mo_numberAt_26 ?_
      refine lv_lstore_n (lv' := [(3, .long ((sl64 x3 (8 : Int32)) ||| ((wif (x1 + x5).toNatClampNeg).toInt64))), (0, .ref w), (1, .int x1), (5, .int x5)]) hx hb d_Mo_numberAt_27 rfl hl (by decide) rfl (fun ls hl => ?_)
      refine lv_iinc (v := (x5 + (-1))) (lv' := [(5, .int (x5 + (-1))), (3, .long ((sl64 x3 (8 : Int32)) ||| ((wif (x1 + x5).toNatClampNeg).toInt64))), (0, .ref w), (1, .int x1)]) hx hb d_Mo_numberAt_28 hl (k := 3) rfl (congrArg (fun z => x5 + z) (by decide)) (by decide) rfl (fun ls hl => ?_)
      refine lv_goto (tgt := 7) hx hb d_Mo_numberAt_31 (by decide) ?_
      exact ih7 ((sl64 x3 (8 : Int32)) ||| ((wif (x1 + x5).toNatClampNeg).toInt64)) (x5 + (-1)) hf _ _ hP hD hS _ (lv_sub hl [2, 3, 1, 0] rfl)
noncomputable def j_Mo_numberAt_0 (N : Nat) (x1 : Int32) (x2 : Int32) (wif : Nat → Int32)  : Option (Int64) :=
  (loop2 (b_Mo_numberAt_7 x1 wif ) N (0 : Int64) (x2 - (1 : Int32)))
set_option maxHeartbeats 4000000 in
set_option maxRecDepth 100000 in
theorem k_Mo_numberAt_0 {r_z : Int64} (C : Fx p s m args meth c cd_Mo_numberAt 6 R_Mo lw_g (some .long)) (hK : va_K (dC, dI) vwCl [(cB, .byte), (cI, .int), (cJ, .long)] s) (hA : ∀ q, s.heap.size ≤ q → A q) (x1 : Int32) (x2 : Int32) (win : Int32) (won : Int32) (whn : Int32) (wpl : Int32) (wdn : Int32) (wfo : Int32) (wmn : Int32) (wpn : Int32) (wbn : Int32) (wcn : Int32) (wat : Int32) (wnu : Int32) (wif : Nat → Int32)  (hf : j_Mo_numberAt_0 N x1 x2 wif  = some r_z) (hP : va_P (dC, dI) vwCl (wd_Mo_numberAt w wi wo wh wd wm wp wb wc wl cB cI cJ win won whn wpl wdn wfo wmn wpn wbn wcn wat wnu wif) H) (hD : va_D A (wd_Mo_numberAt w wi wo wh wd wm wp wb wc wl cB cI cJ win won whn wpl wdn wfo wmn wpn wbn wcn wat wnu wif)) (hS : va_S A s.heap H locs) (hl : lv_has ls 6 [(0, .ref w), (1, .int x1), (2, .int x2)]) : W p l e rm_Mo_numberAt s m args below meth c H locs 0 0 (MQ below (sQl (dC, dI) vwCl [(cB, .byte), (cI, .int), (cJ, .long)] A r_z (wd_Mo_numberAt w wi wo wh wd wm wp wb wc wl cB cI cJ win won whn wpl wdn wfo wmn wpn wbn wcn wat wnu wif)) args s 0 0 A) (F0 m 0 ls []) := by
  obtain ⟨hx, hb, hml, hown, hts, hr, hlocks, hZ⟩ := id C
  unfold j_Mo_numberAt_0 at hf
  refine lv_lconst (v := 0) hx hb d_Mo_numberAt_0 (by decide) ?_
  refine lv_lstore_n (lv' := [(3, .long (0 : Int64)), (0, .ref w), (1, .int x1), (2, .int x2)]) hx hb d_Mo_numberAt_1 rfl hl (by decide) rfl (fun ls hl => ?_)
  refine lv_iload_n hx hb d_Mo_numberAt_2 rfl (lv_at hl 3 rfl) ?_
  refine lv_iconst (v := 1) hx hb d_Mo_numberAt_3 (by decide) ?_
  refine lv_isub hx hb d_Mo_numberAt_4 ?_
  refine lv_istore (lv' := [(5, .int (x2 - (1 : Int32))), (3, .long (0 : Int64)), (0, .ref w), (1, .int x1), (2, .int x2)]) hx hb d_Mo_numberAt_5 hl (by decide) rfl (fun ls hl => ?_)
  exact k_Mo_numberAt_7 C hK hA x1 win won whn wpl wdn wfo wmn wpn wbn wcn wat wnu wif  N (0 : Int64) (x2 - (1 : Int32)) hf _ _ hP hD hS _ (lv_sub hl [2, 3, 1, 0] rfl)
end
noncomputable abbrev f_Mo_numberAt (N : Nat) (x1 : Int32) (x2 : Int32) (wif : Nat → Int32) : Option (Int64) := j_Mo_numberAt_0 N x1 x2 wif
set_option maxRecDepth 100000 in
theorem c_Mo_numberAt {N : Nat} (l : Launch) (dC : Nat → ClassId) (dI : Nat → Nat → Nat) (cB cI cJ : ClassId) (w wi wo wh wd wm wp wb wc wl : Nat) (win : Int32) (won : Int32) (whn : Int32) (wpl : Int32) (wdn : Int32) (wfo : Int32) (wmn : Int32) (wpn : Int32) (wbn : Int32) (wcn : Int32) (wat : Int32) (wnu : Int32) (wif : Nat → Int32) (x1 : Int32) (x2 : Int32) {r_z : Int64} (hf : f_Mo_numberAt N x1 x2 wif = some r_z) : MetL l y_Mo_numberAt ws_Mo_numberAt rm_Mo_numberAt (dC, dI) vwCl [(cB, .byte), (cI, .int), (cJ, .long)] [.ref w, .int x1, .int x2] (wd_Mo_numberAt w wi wo wh wd wm wp wb wc wl cB cI cJ win won whn wpl wdn wfo wmn wpn wbn wcn wat wnu wif) r_z (wd_Mo_numberAt w wi wo wh wd wm wp wb wc wl cB cI cJ win won whn wpl wdn wfo wmn wpn wbn wcn wat wnu wif) 0 0 :=
  s_ofl (bytes := cd_Mo_numberAt) (maxL := 6) (ret := (some .long)) (by decide) rfl (Nat.le_of_ble_eq_true rfl) (fun p e s m below meth c A ls C hK hA hP hD hS hl => k_Mo_numberAt_0 C hK hA x1 x2 win won whn wpl wdn wfo wmn wpn wbn wcn wat wnu wif hf hP hD hS (lv_sub hl [0, 1, 2] rfl))

abbrev wd_Mo_place (w wi wo wh wd wm wp wb wc wl : Nat) (cB cI cJ : ClassId) (win : Int32) (won : Int32) (whn : Int32) (wpl : Int32) (wdn : Int32) (wfo : Int32) (wmn : Int32) (wpn : Int32) (wbn : Int32) (wcn : Int32) (wat : Int32) (wnu : Int32) : va_W := [(w, .inr (7, [.ref wi, .ref wo, .ref wh, .int win, .int won, .int whn, .int wpl, .ref wd, .int wdn, .int wfo, .ref wm, .int wmn, .ref wp, .int wpn, .ref wb, .int wbn, .ref wc, .int wcn, .ref wl, .int wat, .int wnu]))]
abbrev rm_Mo_place : Room := { frames := 0, cells := 0, slots := 0, locals := 0 }
section
variable {p : Program} {l : Launch} {e : Env} {s : State} {m : MethodId} {args : Array Value} {below : List Frame} {meth : Method} {c : Code} {dC : Nat → ClassId} {dI : Nat → Nat → Nat} {A : Nat → Prop} {cB cI cJ : ClassId} {H : Heap} {locs : List Loc} {ls : Array Slot} {N : Nat} {w wi wo wh wd wm wp wb wc wl : Nat}
noncomputable def j_Mo_place_0 (wpl : Int32)  : Option (Int32) :=
  (some wpl : Option (Int32))
set_option maxHeartbeats 4000000 in
set_option maxRecDepth 100000 in
theorem k_Mo_place_0 {r_z : Int32} (C : Fx p s m args meth c cd_Mo_place 1 R_Mo lw_g (some .int)) (hK : va_K (dC, dI) vwCl [(cB, .byte), (cI, .int), (cJ, .long)] s) (hA : ∀ q, s.heap.size ≤ q → A q) (win : Int32) (won : Int32) (whn : Int32) (wpl : Int32) (wdn : Int32) (wfo : Int32) (wmn : Int32) (wpn : Int32) (wbn : Int32) (wcn : Int32) (wat : Int32) (wnu : Int32)  (hf : j_Mo_place_0 wpl  = some r_z) (hP : va_P (dC, dI) vwCl (wd_Mo_place w wi wo wh wd wm wp wb wc wl cB cI cJ win won whn wpl wdn wfo wmn wpn wbn wcn wat wnu) H) (hD : va_D A (wd_Mo_place w wi wo wh wd wm wp wb wc wl cB cI cJ win won whn wpl wdn wfo wmn wpn wbn wcn wat wnu)) (hS : va_S A s.heap H locs) (hl : lv_has ls 1 [(0, .ref w)]) : W p l e rm_Mo_place s m args below meth c H locs 0 0 (MQ below (sQi (dC, dI) vwCl [(cB, .byte), (cI, .int), (cJ, .long)] A r_z (wd_Mo_place w wi wo wh wd wm wp wb wc wl cB cI cJ win won whn wpl wdn wfo wmn wpn wbn wcn wat wnu)) args s 0 0 A) (F0 m 0 ls []) := by
  obtain ⟨hx, hb, hml, hown, hts, hr, hlocks, hZ⟩ := id C
  unfold j_Mo_place_0 at hf
  refine lv_aload_n hx hb d_Mo_place_0 rfl (lv_at hl 0 rfl) ?_
  refine va_get (D := (dC, dI)) (ci := 7) (v := .int wpl) (C := R_Mo) (T := T_Mo) (N := 21) hx hb hts w_359 hown hK hP 0 rfl rfl 6 (by decide) (hts _ w_417) (fun _ h9 => h9) rfl d_Mo_place_1 ?_
  cases hf
  exact s_iret hx hb hr hlocks hP hK hD hS d_Mo_place_4
end
noncomputable abbrev f_Mo_place (wpl : Int32) : Option (Int32) := j_Mo_place_0 wpl
set_option maxRecDepth 100000 in
theorem c_Mo_place (l : Launch) (dC : Nat → ClassId) (dI : Nat → Nat → Nat) (cB cI cJ : ClassId) (w wi wo wh wd wm wp wb wc wl : Nat) (win : Int32) (won : Int32) (whn : Int32) (wpl : Int32) (wdn : Int32) (wfo : Int32) (wmn : Int32) (wpn : Int32) (wbn : Int32) (wcn : Int32) (wat : Int32) (wnu : Int32)  {r_z : Int32} (hf : f_Mo_place wpl = some r_z) : MetI l y_Mo_place ws_Mo_place rm_Mo_place (dC, dI) vwCl [(cB, .byte), (cI, .int), (cJ, .long)] [.ref w] (wd_Mo_place w wi wo wh wd wm wp wb wc wl cB cI cJ win won whn wpl wdn wfo wmn wpn wbn wcn wat wnu) r_z (wd_Mo_place w wi wo wh wd wm wp wb wc wl cB cI cJ win won whn wpl wdn wfo wmn wpn wbn wcn wat wnu) 0 0 :=
  s_ofi (bytes := cd_Mo_place) (maxL := 1) (ret := (some .int)) (by decide) rfl (Nat.le_of_ble_eq_true rfl) (fun p e s m below meth c A ls C hK hA hP hD hS hl => k_Mo_place_0 C hK hA win won whn wpl wdn wfo wmn wpn wbn wcn wat wnu hf hP hD hS (lv_sub hl [0] rfl))

abbrev wd_Mo_readBlock (w wi wb wo wh wd wm wp wc wl : Nat) (cB cI cJ : ClassId) (win : Int32) (won : Int32) (whn : Int32) (wpl : Int32) (wdn : Int32) (wfo : Int32) (wmn : Int32) (wpn : Int32) (wbn : Int32) (wcn : Int32) (wat : Int32) (wnu : Int32) (wif : Nat → Int32) (wbf : Nat → Int32) : va_W := [(w, .inr (7, [.ref wi, .ref wo, .ref wh, .int win, .int won, .int whn, .int wpl, .ref wd, .int wdn, .int wfo, .ref wm, .int wmn, .ref wp, .int wpn, .ref wb, .int wbn, .ref wc, .int wcn, .ref wl, .int wat, .int wnu])), (wi, .inl (cI, 8000, .inl wif)), (wb, .inl (cI, 16000, .inl wbf))]
abbrev rm_Mo_readBlock : Room := { frames := 1, cells := 0, slots := 0, locals := 23 }
section
variable {p : Program} {l : Launch} {e : Env} {s : State} {m : MethodId} {args : Array Value} {below : List Frame} {meth : Method} {c : Code} {dC : Nat → ClassId} {dI : Nat → Nat → Nat} {A : Nat → Prop} {cB cI cJ : ClassId} {H : Heap} {locs : List Loc} {ls : Array Slot} {N : Nat} {w wi wb wo wh wd wm wp wc wl : Nat}
noncomputable def j_Mo_readBlock_227 (x6 : Int32) (wbn : Int32) (wat : Int32) (wnu : Int32) (wbf : Nat → Int32)  : Option (Int32 × Int32 × Int32 × Int32 × Int32 × (Nat → Int32)) :=
  (some ((2 : Int32), x6, wbn, wat, wnu, wbf) : Option (Int32 × Int32 × Int32 × Int32 × Int32 × (Nat → Int32)))
set_option maxHeartbeats 4000000 in
set_option maxRecDepth 100000 in
theorem k_Mo_readBlock_227 {r_z : Int32} {wpl_z : Int32} {wbn_z : Int32} {wat_z : Int32} {wnu_z : Int32} {wbf_z : Nat → Int32} (C : Fx p s m args meth c cd_Mo_readBlock 9 R_Mo lw_g (some .int)) (hK : va_K (dC, dI) vwCl [(cB, .byte), (cI, .int), (cJ, .long)] s) (hA : ∀ q, s.heap.size ≤ q → A q) (x6 : Int32) (win : Int32) (won : Int32) (whn : Int32) (wpl : Int32) (wdn : Int32) (wfo : Int32) (wmn : Int32) (wpn : Int32) (wbn : Int32) (wcn : Int32) (wat : Int32) (wnu : Int32) (wif : Nat → Int32) (wbf : Nat → Int32)  (hf : j_Mo_readBlock_227 x6 wbn wat wnu wbf  = some (r_z, wpl_z, wbn_z, wat_z, wnu_z, wbf_z)) (hP : va_P (dC, dI) vwCl (wd_Mo_readBlock w wi wb wo wh wd wm wp wc wl cB cI cJ win won whn wpl wdn wfo wmn wpn wbn wcn wat wnu wif wbf) H) (hD : va_D A (wd_Mo_readBlock w wi wb wo wh wd wm wp wc wl cB cI cJ win won whn wpl wdn wfo wmn wpn wbn wcn wat wnu wif wbf)) (hS : va_S A s.heap H locs) (hl : lv_has ls 9 [(0, .ref w), (6, .int x6)]) : W p l e rm_Mo_readBlock s m args below meth c H locs 0 0 (MQ below (sQi (dC, dI) vwCl [(cB, .byte), (cI, .int), (cJ, .long)] A r_z (wd_Mo_readBlock w wi wb wo wh wd wm wp wc wl cB cI cJ win won whn wpl_z wdn wfo wmn wpn wbn_z wcn wat_z wnu_z wif wbf_z)) args s 0 0 A) (F0 m 227 ls []) := by
  obtain ⟨hx, hb, hml, hown, hts, hr, hlocks, hZ⟩ := id C
  unfold j_Mo_readBlock_227 at hf
  refine lv_aload_n hx hb d_Mo_readBlock_227 rfl (lv_at hl 0 rfl) ?_
  refine lv_iload hx hb d_Mo_readBlock_228 (lv_at hl 1 rfl) ?_
  refine va_put (D := (dC, dI)) (ci := 7) (v := .int x6) (ty := .int) (C := R_Mo) (T := T_Mo) (N := 21) hx hb hts w_359 ty_Mo ty_Mo_ok nm_Mo hown hK hP hD hS 0 rfl rfl 6 (by decide) (hts _ w_417) (fun _ h9 => h9) rfl (by decide +kernel) rfl rfl (Nat.le_of_ble_eq_true rfl) d_Mo_readBlock_230 (fun H locs hP hD hS => ?_)
  have hP : va_P (dC, dI) vwCl (wd_Mo_readBlock w wi wb wo wh wd wm wp wc wl cB cI cJ win won whn x6 wdn wfo wmn wpn wbn wcn wat wnu wif wbf) H := hP
  have hD : va_D A (wd_Mo_readBlock w wi wb wo wh wd wm wp wc wl cB cI cJ win won whn x6 wdn wfo wmn wpn wbn wcn wat wnu wif wbf) := hD
  refine lv_iconst (v := 2) hx hb d_Mo_readBlock_233 (by decide) ?_
  cases hf
  exact s_iret hx hb hr hlocks hP hK hD hS d_Mo_readBlock_234
noncomputable def b_Mo_readBlock_279 (x7 : Int32) (wpl : Int32) (wat : Int32) (wnu : Int32) (kh11 : Int32 → Int32 → Int32 → Int32 → (Nat → Int32) → Option (Int32 × Int32 × Int32 × Int32 × Int32 × (Nat → Int32))) (kh279 : Int32 → Int32 → (Nat → Int32) → Option (Int32 × Int32 × Int32 × Int32 × Int32 × (Nat → Int32))) (x8 : Int32) (wbn : Int32) (wbf : Nat → Int32) : Option (Int32 × Int32 × Int32 × Int32 × Int32 × (Nat → Int32)) :=
  (if (wnu + (4 : Int32)) ≤ x8 then (kh11 wpl wbn wat wnu wbf) else as_ (vp_in (wbn - x7) 16000) (as_ (vp_in wbn 16000) ((kh279 (x8 + 1) (wbn + (1 : Int32)) (upd wbf wbn.toNatClampNeg (wbf (wbn - x7).toNatClampNeg))))))
set_option maxHeartbeats 4000000 in
set_option maxRecDepth 100000 in
theorem k_Mo_readBlock_279 {r_z : Int32} {wpl_z : Int32} {wbn_z : Int32} {wat_z : Int32} {wnu_z : Int32} {wbf_z : Nat → Int32} (C : Fx p s m args meth c cd_Mo_readBlock 9 R_Mo lw_g (some .int)) (hK : va_K (dC, dI) vwCl [(cB, .byte), (cI, .int), (cJ, .long)] s) (hA : ∀ q, s.heap.size ≤ q → A q) (x2 : Int32) (x3 : Int32) (x4 : Int32) (x7 : Int32) (win : Int32) (won : Int32) (whn : Int32) (wpl : Int32) (wdn : Int32) (wfo : Int32) (wmn : Int32) (wpn : Int32) (wcn : Int32) (wat : Int32) (wnu : Int32) (wif : Nat → Int32) (kh11 : Int32 → Int32 → Int32 → Int32 → (Nat → Int32) → Option (Int32 × Int32 × Int32 × Int32 × Int32 × (Nat → Int32))) (ih11 : ∀ (wpl : Int32) (wbn : Int32) (wat : Int32) (wnu : Int32) (wbf : Nat → Int32), kh11 wpl wbn wat wnu wbf = some (r_z, wpl_z, wbn_z, wat_z, wnu_z, wbf_z) → ∀ (H : Heap) (locs : List Loc), va_P (dC, dI) vwCl (wd_Mo_readBlock w wi wb wo wh wd wm wp wc wl cB cI cJ win won whn wpl wdn wfo wmn wpn wbn wcn wat wnu wif wbf) H → va_D A (wd_Mo_readBlock w wi wb wo wh wd wm wp wc wl cB cI cJ win won whn wpl wdn wfo wmn wpn wbn wcn wat wnu wif wbf) → va_S A s.heap H locs → ∀ (ls : Array Slot), lv_has ls 9 [(0, .ref w), (2, .int x2), (3, .int x3), (4, .int x4)] → W p l e rm_Mo_readBlock s m args below meth c H locs 0 0 (MQ below (sQi (dC, dI) vwCl [(cB, .byte), (cI, .int), (cJ, .long)] A r_z (wd_Mo_readBlock w wi wb wo wh wd wm wp wc wl cB cI cJ win won whn wpl_z wdn wfo wmn wpn wbn_z wcn wat_z wnu_z wif wbf_z)) args s 0 0 A) (F0 m 11 ls [])) : ∀ (n : Nat) (x8 : Int32) (wbn : Int32) (wbf : Nat → Int32), loop3 (b_Mo_readBlock_279 x7 wpl wat wnu kh11) n x8 wbn wbf = some (r_z, wpl_z, wbn_z, wat_z, wnu_z, wbf_z) → ∀ (H : Heap) (locs : List Loc), va_P (dC, dI) vwCl (wd_Mo_readBlock w wi wb wo wh wd wm wp wc wl cB cI cJ win won whn wpl wdn wfo wmn wpn wbn wcn wat wnu wif wbf) H → va_D A (wd_Mo_readBlock w wi wb wo wh wd wm wp wc wl cB cI cJ win won whn wpl wdn wfo wmn wpn wbn wcn wat wnu wif wbf) → va_S A s.heap H locs → ∀ (ls : Array Slot), lv_has ls 9 [(0, .ref w), (2, .int x2), (3, .int x3), (4, .int x4), (7, .int x7), (8, .int x8)] → W p l e rm_Mo_readBlock s m args below meth c H locs 0 0 (MQ below (sQi (dC, dI) vwCl [(cB, .byte), (cI, .int), (cJ, .long)] A r_z (wd_Mo_readBlock w wi wb wo wh wd wm wp wc wl cB cI cJ win won whn wpl_z wdn wfo wmn wpn wbn_z wcn wat_z wnu_z wif wbf_z)) args s 0 0 A) (F0 m 279 ls []) := by
  obtain ⟨hx, hb, hml, hown, hts, hr, hlocks, hZ⟩ := id C
  intro n
  induction n with
  | zero => intro x8 wbn wbf hf; cases hf
  | succ n ih279 =>
    intro x8 wbn wbf hf H locs hP hD hS ls hl
    have hf : b_Mo_readBlock_279 x7 wpl wat wnu kh11 (loop3 (b_Mo_readBlock_279 x7 wpl wat wnu kh11) n) x8 wbn wbf = some (r_z, wpl_z, wbn_z, wat_z, wnu_z, wbf_z) := hf
    generalize loop3 (b_Mo_readBlock_279 x7 wpl wat wnu kh11) n = kh279 at hf ih279
    unfold b_Mo_readBlock_279 at hf
    refine lv_iload hx hb d_Mo_readBlock_279 (lv_at hl 5 rfl) ?_
    refine lv_aload_n hx hb d_Mo_readBlock_281 rfl (lv_at hl 0 rfl) ?_
    refine va_get (D := (dC, dI)) (ci := 7) (v := .int wnu) (C := R_Mo) (T := T_Mo) (N := 21) hx hb hts w_359 hown hK hP 0 rfl rfl 20 (by decide) (hts _ w_367) (fun _ h9 => h9) rfl d_Mo_readBlock_282 ?_
    refine lv_iconst (v := 4) hx hb d_Mo_readBlock_285 (by decide) ?_
    refine lv_iadd hx hb d_Mo_readBlock_286 ?_
    refine lv_icmp_ge (tgt := 327) hx hb d_Mo_readBlock_287 (by decide) (fun c_287 => ?_) (fun c_287 => ?_)
    · have hf := br_pos c_287 hf
      refine lv_goto (tgt := 11) hx hb d_Mo_readBlock_327 (by decide) ?_
      exact ih11 wpl wbn wat wnu wbf hf _ _ hP hD hS _ (lv_sub hl [0, 1, 2, 3] rfl)
    · have hf := br_neg c_287 hf
      refine lv_aload_n hx hb d_Mo_readBlock_290 rfl (lv_at hl 0 rfl) ?_
      refine va_get (D := (dC, dI)) (ci := 7) (v := .ref wb) (C := R_Mo) (T := T_Mo) (N := 21) hx hb hts w_359 hown hK hP 0 rfl rfl 14 (by decide) (hts _ w_376) (fun _ h9 => h9) rfl d_Mo_readBlock_291 ?_
      refine lv_aload_n hx hb d_Mo_readBlock_294 rfl (lv_at hl 0 rfl) ?_
      refine va_get (D := (dC, dI)) (ci := 7) (v := .int wbn) (C := R_Mo) (T := T_Mo) (N := 21) hx hb hts w_359 hown hK hP 0 rfl rfl 15 (by decide) (hts _ w_375) (fun _ h9 => h9) rfl d_Mo_readBlock_295 ?_
      refine lv_aload_n hx hb d_Mo_readBlock_298 rfl (lv_at hl 0 rfl) ?_
      refine va_get (D := (dC, dI)) (ci := 7) (v := .ref wb) (C := R_Mo) (T := T_Mo) (N := 21) hx hb hts w_359 hown hK hP 0 rfl rfl 14 (by decide) (hts _ w_376) (fun _ h9 => h9) rfl d_Mo_readBlock_299 ?_
      refine lv_aload_n hx hb d_Mo_readBlock_302 rfl (lv_at hl 0 rfl) ?_
      refine va_get (D := (dC, dI)) (ci := 7) (v := .int wbn) (C := R_Mo) (T := T_Mo) (N := 21) hx hb hts w_359 hown hK hP 0 rfl rfl 15 (by decide) (hts _ w_375) (fun _ h9 => h9) rfl d_Mo_readBlock_303 ?_
      refine lv_iload hx hb d_Mo_readBlock_306 (lv_at hl 4 rfl) ?_
      refine lv_isub hx hb d_Mo_readBlock_308 ?_
      obtain ⟨h_in, hf⟩ := as_some hf
      refine va_iald hx hb hK hP 2 1 rfl rfl h_in d_Mo_readBlock_309 ?_
      obtain ⟨h_in, hf⟩ := as_some hf
      refine va_iast hx hb hK hP hD hS 2 1 rfl rfl h_in d_Mo_readBlock_310 (fun H locs hP hD hS => ?_)
      have hP : va_P (dC, dI) vwCl (wd_Mo_readBlock w wi wb wo wh wd wm wp wc wl cB cI cJ win won whn wpl wdn wfo wmn wpn wbn wcn wat wnu wif (upd wbf wbn.toNatClampNeg (wbf (wbn - x7).toNatClampNeg))) H := hP
      have hD : va_D A (wd_Mo_readBlock w wi wb wo wh wd wm wp wc wl cB cI cJ win won whn wpl wdn wfo wmn wpn wbn wcn wat wnu wif (upd wbf wbn.toNatClampNeg (wbf (wbn - x7).toNatClampNeg))) := hD
      refine lv_aload_n hx hb d_Mo_readBlock_311 rfl (lv_at hl 0 rfl) ?_
      refine lv_dup hx hb d_Mo_readBlock_312 rfl ?_
      refine va_get (D := (dC, dI)) (ci := 7) (v := .int wbn) (C := R_Mo) (T := T_Mo) (N := 21) hx hb hts w_359 hown hK hP 0 rfl rfl 15 (by decide) (hts _ w_375) (fun _ h9 => h9) rfl d_Mo_readBlock_313 ?_
      refine lv_iconst (v := 1) hx hb d_Mo_readBlock_316 (by decide) ?_
      refine lv_iadd hx hb d_Mo_readBlock_317 ?_
      refine va_put (D := (dC, dI)) (ci := 7) (v := .int (wbn + (1 : Int32))) (ty := .int) (C := R_Mo) (T := T_Mo) (N := 21) hx hb hts w_359 ty_Mo ty_Mo_ok nm_Mo hown hK hP hD hS 0 rfl rfl 15 (by decide) (hts _ w_375) (fun _ h9 => h9) rfl (by decide +kernel) rfl rfl (Nat.le_of_ble_eq_true rfl) d_Mo_readBlock_318 (fun H locs hP hD hS => ?_)
      have hP : va_P (dC, dI) vwCl (wd_Mo_readBlock w wi wb wo wh wd wm wp wc wl cB cI cJ win won whn wpl wdn wfo wmn wpn (wbn + (1 : Int32)) wcn wat wnu wif (upd wbf wbn.toNatClampNeg (wbf (wbn - x7).toNatClampNeg))) H := hP
      have hD : va_D A (wd_Mo_readBlock w wi wb wo wh wd wm wp wc wl cB cI cJ win won whn wpl wdn wfo wmn wpn (wbn + (1 : Int32)) wcn wat wnu wif (upd wbf wbn.toNatClampNeg (wbf (wbn - x7).toNatClampNeg))) := hD
      refine lv_iinc (v := (x8 + 1)) (lv' := [(8, .int (x8 + 1)), (0, .ref w), (2, .int x2), (3, .int x3), (4, .int x4), (7, .int x7)]) hx hb d_Mo_readBlock_321 hl (k := 5) rfl (congrArg (fun z => x8 + z) (by decide)) (by decide) rfl (fun ls hl => ?_)
      refine lv_goto (tgt := 279) hx hb d_Mo_readBlock_324 (by decide) ?_
      exact ih279 (x8 + 1) (wbn + (1 : Int32)) (upd wbf wbn.toNatClampNeg (wbf (wbn - x7).toNatClampNeg)) hf _ _ hP hD hS _ (lv_sub hl [1, 2, 3, 4, 5, 0] rfl)
noncomputable def b_Mo_readBlock_68 (N : Nat) (x2 : Int32) (x3 : Int32) (x4 : Int32) (x5 : Int32) (wpl : Int32) (wnu : Int32) (wif : Nat → Int32) (kh11 : Int32 → Int32 → Int32 → Int32 → (Nat → Int32) → Option (Int32 × Int32 × Int32 × Int32 × Int32 × (Nat → Int32))) (kh68 : Int32 → Int32 → Int32 → (Nat → Int32) → Option (Int32 × Int32 × Int32 × Int32 × Int32 × (Nat → Int32))) (x6 : Int32) (wbn : Int32) (wat : Int32) (wbf : Nat → Int32) : Option (Int32 × Int32 × Int32 × Int32 × Int32 × (Nat → Int32)) :=
  (if x6 ≤ 0 then (if wat = x2 then (some ((0 : Int32), wpl, wbn, wat, wnu, wbf) : Option (Int32 × Int32 × Int32 × Int32 × Int32 × (Nat → Int32))) else (if (wat + (2 : Int32)) ≤ x2 then as_ (vp_in wat 8000) (as_ (vp_in (wat + (1 : Int32)) 8000) ((if ((wif wat.toNatClampNeg) + ((256 : Int32) * (wif (wat + (1 : Int32)).toNatClampNeg))) = 0 then (j_Mo_readBlock_227 wat wbn (wat + (2 : Int32)) wnu wbf ) else (if ((wif wat.toNatClampNeg) + ((256 : Int32) * (wif (wat + (1 : Int32)).toNatClampNeg))) ≤ wbn then bd3 (f_Mo_adds N (x5 - x5 / (16 : Int32) * (16 : Int32)) x2 (wat + (2 : Int32)) wif) (fun r242 wat_242 wnu_242 => (if r242 = 0 then (some ((1 : Int32), wpl, wbn, wat_242, wnu_242, wbf) : Option (Int32 × Int32 × Int32 × Int32 × Int32 × (Nat → Int32))) else (if (wnu_242 + (4 : Int32)) ≤ (x3 - (wbn - x4)) then (loop3 (b_Mo_readBlock_279 ((wif wat.toNatClampNeg) + ((256 : Int32) * (wif (wat + (1 : Int32)).toNatClampNeg))) wpl wat_242 wnu_242 kh11) N (0 : Int32) wbn wbf) else (some ((3 : Int32), wat, wbn, wat_242, wnu_242, wbf) : Option (Int32 × Int32 × Int32 × Int32 × Int32 × (Nat → Int32)))))) else (j_Mo_readBlock_227 wat wbn (wat + (2 : Int32)) wnu wbf ))))) else (some ((1 : Int32), wpl, wbn, wat, wnu, wbf) : Option (Int32 × Int32 × Int32 × Int32 × Int32 × (Nat → Int32))))) else (if wat = x2 then (some ((1 : Int32), wpl, wbn, wat, wnu, wbf) : Option (Int32 × Int32 × Int32 × Int32 × Int32 × (Nat → Int32))) else (if (wbn - x4) = x3 then (some ((3 : Int32), wat, wbn, wat, wnu, wbf) : Option (Int32 × Int32 × Int32 × Int32 × Int32 × (Nat → Int32))) else as_ (vp_in wat 8000) (as_ (vp_in wbn 16000) ((kh68 (x6 + (-1)) (wbn + (1 : Int32)) (wat + (1 : Int32)) (upd wbf wbn.toNatClampNeg (wif wat.toNatClampNeg))))))))
set_option maxHeartbeats 4000000 in
set_option maxRecDepth 100000 in
theorem k_Mo_readBlock_68 {r_z : Int32} {wpl_z : Int32} {wbn_z : Int32} {wat_z : Int32} {wnu_z : Int32} {wbf_z : Nat → Int32} (C : Fx p s m args meth c cd_Mo_readBlock 9 R_Mo lw_g (some .int)) (hK : va_K (dC, dI) vwCl [(cB, .byte), (cI, .int), (cJ, .long)] s) (hA : ∀ q, s.heap.size ≤ q → A q) (x2 : Int32) (x3 : Int32) (x4 : Int32) (x5 : Int32) (win : Int32) (won : Int32) (whn : Int32) (wpl : Int32) (wdn : Int32) (wfo : Int32) (wmn : Int32) (wpn : Int32) (wcn : Int32) (wnu : Int32) (wif : Nat → Int32) (kh11 : Int32 → Int32 → Int32 → Int32 → (Nat → Int32) → Option (Int32 × Int32 × Int32 × Int32 × Int32 × (Nat → Int32))) (ih11 : ∀ (wpl : Int32) (wbn : Int32) (wat : Int32) (wnu : Int32) (wbf : Nat → Int32), kh11 wpl wbn wat wnu wbf = some (r_z, wpl_z, wbn_z, wat_z, wnu_z, wbf_z) → ∀ (H : Heap) (locs : List Loc), va_P (dC, dI) vwCl (wd_Mo_readBlock w wi wb wo wh wd wm wp wc wl cB cI cJ win won whn wpl wdn wfo wmn wpn wbn wcn wat wnu wif wbf) H → va_D A (wd_Mo_readBlock w wi wb wo wh wd wm wp wc wl cB cI cJ win won whn wpl wdn wfo wmn wpn wbn wcn wat wnu wif wbf) → va_S A s.heap H locs → ∀ (ls : Array Slot), lv_has ls 9 [(0, .ref w), (2, .int x2), (3, .int x3), (4, .int x4)] → W p l e rm_Mo_readBlock s m args below meth c H locs 0 0 (MQ below (sQi (dC, dI) vwCl [(cB, .byte), (cI, .int), (cJ, .long)] A r_z (wd_Mo_readBlock w wi wb wo wh wd wm wp wc wl cB cI cJ win won whn wpl_z wdn wfo wmn wpn wbn_z wcn wat_z wnu_z wif wbf_z)) args s 0 0 A) (F0 m 11 ls [])) : ∀ (n : Nat) (x6 : Int32) (wbn : Int32) (wat : Int32) (wbf : Nat → Int32), loop4 (b_Mo_readBlock_68 N x2 x3 x4 x5 wpl wnu wif kh11) n x6 wbn wat wbf = some (r_z, wpl_z, wbn_z, wat_z, wnu_z, wbf_z) → ∀ (H : Heap) (locs : List Loc), va_P (dC, dI) vwCl (wd_Mo_readBlock w wi wb wo wh wd wm wp wc wl cB cI cJ win won whn wpl wdn wfo wmn wpn wbn wcn wat wnu wif wbf) H → va_D A (wd_Mo_readBlock w wi wb wo wh wd wm wp wc wl cB cI cJ win won whn wpl wdn wfo wmn wpn wbn wcn wat wnu wif wbf) → va_S A s.heap H locs → ∀ (ls : Array Slot), lv_has ls 9 [(0, .ref w), (2, .int x2), (3, .int x3), (4, .int x4), (5, .int x5), (6, .int x6)] → W p l e rm_Mo_readBlock s m args below meth c H locs 0 0 (MQ below (sQi (dC, dI) vwCl [(cB, .byte), (cI, .int), (cJ, .long)] A r_z (wd_Mo_readBlock w wi wb wo wh wd wm wp wc wl cB cI cJ win won whn wpl_z wdn wfo wmn wpn wbn_z wcn wat_z wnu_z wif wbf_z)) args s 0 0 A) (F0 m 68 ls []) := by
  obtain ⟨hx, hb, hml, hown, hts, hr, hlocks, hZ⟩ := id C
  intro n
  induction n with
  | zero => intro x6 wbn wat wbf hf; cases hf
  | succ n ih68 =>
    intro x6 wbn wat wbf hf H locs hP hD hS ls hl
    have hf : b_Mo_readBlock_68 N x2 x3 x4 x5 wpl wnu wif kh11 (loop4 (b_Mo_readBlock_68 N x2 x3 x4 x5 wpl wnu wif kh11) n) x6 wbn wat wbf = some (r_z, wpl_z, wbn_z, wat_z, wnu_z, wbf_z) := hf
    generalize loop4 (b_Mo_readBlock_68 N x2 x3 x4 x5 wpl wnu wif kh11) n = kh68 at hf ih68
    unfold b_Mo_readBlock_68 at hf
    refine lv_iload hx hb d_Mo_readBlock_68 (lv_at hl 5 rfl) ?_
    refine lv_if_le (tgt := 148) hx hb d_Mo_readBlock_70 (by decide) (fun c_70 => ?_) (fun c_70 => ?_)
    · have hf := br_pos c_70 hf
      refine lv_aload_n hx hb d_Mo_readBlock_148 rfl (lv_at hl 0 rfl) ?_
      refine va_get (D := (dC, dI)) (ci := 7) (v := .int wat) (C := R_Mo) (T := T_Mo) (N := 21) hx hb hts w_359 hown hK hP 0 rfl rfl 19 (by decide) (hts _ w_368) (fun _ h9 => h9) rfl d_Mo_readBlock_149 ?_
      refine lv_iload_n hx hb d_Mo_readBlock_152 rfl (lv_at hl 1 rfl) ?_
      refine lv_icmp_ne (tgt := 158) hx hb d_Mo_readBlock_153 (by decide) (fun c_153 => ?_) (fun c_153 => ?_)
      · have hf := br_neg c_153 hf
        refine lv_aload_n hx hb d_Mo_readBlock_158 rfl (lv_at hl 0 rfl) ?_
        refine va_get (D := (dC, dI)) (ci := 7) (v := .int wat) (C := R_Mo) (T := T_Mo) (N := 21) hx hb hts w_359 hown hK hP 0 rfl rfl 19 (by decide) (hts _ w_368) (fun _ h9 => h9) rfl d_Mo_readBlock_159 ?_
        refine lv_istore (lv' := [(6, .int wat), (0, .ref w), (2, .int x2), (3, .int x3), (4, .int x4), (5, .int x5)]) hx hb d_Mo_readBlock_162 hl (by decide) rfl (fun ls hl => ?_)
        refine lv_aload_n hx hb d_Mo_readBlock_164 rfl (lv_at hl 1 rfl) ?_
        refine va_get (D := (dC, dI)) (ci := 7) (v := .int wat) (C := R_Mo) (T := T_Mo) (N := 21) hx hb hts w_359 hown hK hP 0 rfl rfl 19 (by decide) (hts _ w_368) (fun _ h9 => h9) rfl d_Mo_readBlock_165 ?_
        refine lv_iconst (v := 2) hx hb d_Mo_readBlock_168 (by decide) ?_
        refine lv_iadd hx hb d_Mo_readBlock_169 ?_
        refine lv_iload_n hx hb d_Mo_readBlock_170 rfl (lv_at hl 2 rfl) ?_
        refine lv_icmp_le (tgt := 176) hx hb d_Mo_readBlock_171 (by decide) (fun c_171 => ?_) (fun c_171 => ?_)
        · have hf := br_pos c_171 hf
          refine lv_aload_n hx hb d_Mo_readBlock_176 rfl (lv_at hl 1 rfl) ?_
          refine va_get (D := (dC, dI)) (ci := 7) (v := .ref wi) (C := R_Mo) (T := T_Mo) (N := 21) hx hb hts w_359 hown hK hP 0 rfl rfl 0 (by decide) (hts _ w_369) (fun _ h9 => h9) rfl d_Mo_readBlock_177 ?_
          refine lv_aload_n hx hb d_Mo_readBlock_180 rfl (lv_at hl 1 rfl) ?_
          refine va_get (D := (dC, dI)) (ci := 7) (v := .int wat) (C := R_Mo) (T := T_Mo) (N := 21) hx hb hts w_359 hown hK hP 0 rfl rfl 19 (by decide) (hts _ w_368) (fun _ h9 => h9) rfl d_Mo_readBlock_181 ?_
          obtain ⟨h_in, hf⟩ := as_some hf
          refine va_iald hx hb hK hP 1 1 rfl rfl h_in d_Mo_readBlock_184 ?_
          refine lv_sipush (v := 256) hx hb d_Mo_readBlock_185 (by decide) ?_
          refine lv_aload_n hx hb d_Mo_readBlock_188 rfl (lv_at hl 1 rfl) ?_
          refine va_get (D := (dC, dI)) (ci := 7) (v := .ref wi) (C := R_Mo) (T := T_Mo) (N := 21) hx hb hts w_359 hown hK hP 0 rfl rfl 0 (by decide) (hts _ w_369) (fun _ h9 => h9) rfl d_Mo_readBlock_189 ?_
          refine lv_aload_n hx hb d_Mo_readBlock_192 rfl (lv_at hl 1 rfl) ?_
          refine va_get (D := (dC, dI)) (ci := 7) (v := .int wat) (C := R_Mo) (T := T_Mo) (N := 21) hx hb hts w_359 hown hK hP 0 rfl rfl 19 (by decide) (hts _ w_368) (fun _ h9 => h9) rfl d_Mo_readBlock_193 ?_
          refine lv_iconst (v := 1) hx hb d_Mo_readBlock_196 (by decide) ?_
          refine lv_iadd hx hb d_Mo_readBlock_197 ?_
          obtain ⟨h_in, hf⟩ := as_some hf
          refine va_iald hx hb hK hP 1 1 rfl rfl h_in d_Mo_readBlock_198 ?_
          refine lv_imul hx hb d_Mo_readBlock_199 ?_
          refine lv_iadd hx hb d_Mo_readBlock_200 ?_
          refine lv_istore (lv' := [(7, .int ((wif wat.toNatClampNeg) + ((256 : Int32) * (wif (wat + (1 : Int32)).toNatClampNeg)))), (6, .int wat), (0, .ref w), (2, .int x2), (3, .int x3), (4, .int x4), (5, .int x5)]) hx hb d_Mo_readBlock_201 hl (by decide) rfl (fun ls hl => ?_)
          refine lv_aload_n hx hb d_Mo_readBlock_203 rfl (lv_at hl 2 rfl) ?_
          refine lv_dup hx hb d_Mo_readBlock_204 rfl ?_
          refine va_get (D := (dC, dI)) (ci := 7) (v := .int wat) (C := R_Mo) (T := T_Mo) (N := 21) hx hb hts w_359 hown hK hP 0 rfl rfl 19 (by decide) (hts _ w_368) (fun _ h9 => h9) rfl d_Mo_readBlock_205 ?_
          refine lv_iconst (v := 2) hx hb d_Mo_readBlock_208 (by decide) ?_
          refine lv_iadd hx hb d_Mo_readBlock_209 ?_
          refine va_put (D := (dC, dI)) (ci := 7) (v := .int (wat + (2 : Int32))) (ty := .int) (C := R_Mo) (T := T_Mo) (N := 21) hx hb hts w_359 ty_Mo ty_Mo_ok nm_Mo hown hK hP hD hS 0 rfl rfl 19 (by decide) (hts _ w_368) (fun _ h9 => h9) rfl (by decide +kernel) rfl rfl (Nat.le_of_ble_eq_true rfl) d_Mo_readBlock_210 (fun H locs hP hD hS => ?_)
          have hP : va_P (dC, dI) vwCl (wd_Mo_readBlock w wi wb wo wh wd wm wp wc wl cB cI cJ win won whn wpl wdn wfo wmn wpn wbn wcn (wat + (2 : Int32)) wnu wif wbf) H := hP
          have hD : va_D A (wd_Mo_readBlock w wi wb wo wh wd wm wp wc wl cB cI cJ win won whn wpl wdn wfo wmn wpn wbn wcn (wat + (2 : Int32)) wnu wif wbf) := hD
          refine lv_iload hx hb d_Mo_readBlock_213 (lv_at hl 0 rfl) ?_
          refine lv_if_eq (tgt := 227) hx hb d_Mo_readBlock_215 (by decide) (fun c_215 => ?_) (fun c_215 => ?_)
          · have hf := br_pos c_215 hf
            exact k_Mo_readBlock_227 C hK hA wat win won whn wpl wdn wfo wmn wpn wbn wcn (wat + (2 : Int32)) wnu wif wbf  hf hP hD hS (lv_sub hl [2, 1] rfl)
          · have hf := br_neg c_215 hf
            refine lv_iload hx hb d_Mo_readBlock_218 (lv_at hl 0 rfl) ?_
            refine lv_aload_n hx hb d_Mo_readBlock_220 rfl (lv_at hl 2 rfl) ?_
            refine va_get (D := (dC, dI)) (ci := 7) (v := .int wbn) (C := R_Mo) (T := T_Mo) (N := 21) hx hb hts w_359 hown hK hP 0 rfl rfl 15 (by decide) (hts _ w_375) (fun _ h9 => h9) rfl d_Mo_readBlock_221 ?_
            refine lv_icmp_le (tgt := 235) hx hb d_Mo_readBlock_224 (by decide) (fun c_224 => ?_) (fun c_224 => ?_)
            · have hf := br_pos c_224 hf
              refine lv_aload_n hx hb d_Mo_readBlock_235 rfl (lv_at hl 2 rfl) ?_
              refine lv_iload hx hb d_Mo_readBlock_236 (lv_at hl 6 rfl) ?_
              refine lv_bipush (v := 16) hx hb d_Mo_readBlock_238 (by decide) ?_
              refine lv_irem hx hb d_Mo_readBlock_240 (by decide) ?_
              refine lv_iload_n hx hb d_Mo_readBlock_241 rfl (lv_at hl 3 rfl) ?_
              obtain ⟨r242, wat_242, wnu_242, hc242, hf⟩ := bd3_some hf
              refine s_Vi (As := [.int (x5 - x5 / (16 : Int32) * (16 : Int32)), .int x2]) (rest := []) (wr := [(wb, .inl (cI, 16000, .inl wbf))]) (ws' := wd_Mo_readBlock w wi wb wo wh wd wm wp wc wl cB cI cJ win won whn wpl wdn wfo wmn wpn wbn wcn wat_242 wnu_242 wif wbf) C.call (c_Mo_adds l dC dI cB cI cJ w wi wo wh wd wm wp wb wc wl  win won whn wpl wdn wfo wmn wpn wbn wcn (wat + (2 : Int32)) wnu wif (x5 - x5 / (16 : Int32) * (16 : Int32)) x2 hc242) (cwV 2 hts (gd_V w_454 w_455 w_456 w_365 w_457) rfl rfl rfl ⟨rfl, hd_Mo_adds⟩ ⟨Nat.le_of_ble_eq_true rfl, Nat.le_of_ble_eq_true rfl⟩) rfl hl.1 rfl (Nat.le_of_ble_eq_true rfl) d_Mo_readBlock_242 ⟨Nat.le_of_ble_eq_true rfl, Nat.le_of_ble_eq_true rfl⟩ hZ hK hP hD hS hA 7 0 rfl rfl [0, 1] [2] [1, 2, 0] rfl rfl rfl rfl (by decide) rfl rfl (fun H locs hP hD hS => ?_)
              refine lv_if_ne (tgt := 250) hx hb d_Mo_readBlock_245 (by decide) (fun c_245 => ?_) (fun c_245 => ?_)
              · have hf := br_neg c_245 hf
                refine lv_aload_n hx hb d_Mo_readBlock_250 rfl (lv_at hl 2 rfl) ?_
                refine va_get (D := (dC, dI)) (ci := 7) (v := .int wnu_242) (C := R_Mo) (T := T_Mo) (N := 21) hx hb hts w_359 hown hK hP 0 rfl rfl 20 (by decide) (hts _ w_367) (fun _ h9 => h9) rfl d_Mo_readBlock_251 ?_
                refine lv_iconst (v := 4) hx hb d_Mo_readBlock_254 (by decide) ?_
                refine lv_iadd hx hb d_Mo_readBlock_255 ?_
                refine lv_iload_n hx hb d_Mo_readBlock_256 rfl (lv_at hl 4 rfl) ?_
                refine lv_aload_n hx hb d_Mo_readBlock_257 rfl (lv_at hl 2 rfl) ?_
                refine va_get (D := (dC, dI)) (ci := 7) (v := .int wbn) (C := R_Mo) (T := T_Mo) (N := 21) hx hb hts w_359 hown hK hP 0 rfl rfl 15 (by decide) (hts _ w_375) (fun _ h9 => h9) rfl d_Mo_readBlock_258 ?_
                refine lv_iload hx hb d_Mo_readBlock_261 (lv_at hl 5 rfl) ?_
                refine lv_isub hx hb d_Mo_readBlock_263 ?_
                refine lv_isub hx hb d_Mo_readBlock_264 ?_
                refine lv_icmp_le (tgt := 276) hx hb d_Mo_readBlock_265 (by decide) (fun c_265 => ?_) (fun c_265 => ?_)
                · have hf := br_pos c_265 hf
                  refine lv_iconst (v := 0) hx hb d_Mo_readBlock_276 (by decide) ?_
                  refine lv_istore (lv' := [(8, .int (0 : Int32)), (7, .int ((wif wat.toNatClampNeg) + ((256 : Int32) * (wif (wat + (1 : Int32)).toNatClampNeg)))), (6, .int wat), (0, .ref w), (2, .int x2), (3, .int x3), (4, .int x4), (5, .int x5)]) hx hb d_Mo_readBlock_277 hl (by decide) rfl (fun ls hl => ?_)
                  exact k_Mo_readBlock_279 C hK hA x2 x3 x4 ((wif wat.toNatClampNeg) + ((256 : Int32) * (wif (wat + (1 : Int32)).toNatClampNeg))) win won whn wpl wdn wfo wmn wpn wcn wat_242 wnu_242 wif kh11 ih11 N (0 : Int32) wbn wbf hf _ _ hP hD hS _ (lv_sub hl [3, 4, 5, 6, 1, 0] rfl)
                · have hf := br_neg c_265 hf
                  refine lv_aload_n hx hb d_Mo_readBlock_268 rfl (lv_at hl 2 rfl) ?_
                  refine lv_iload hx hb d_Mo_readBlock_269 (lv_at hl 1 rfl) ?_
                  refine va_put (D := (dC, dI)) (ci := 7) (v := .int wat) (ty := .int) (C := R_Mo) (T := T_Mo) (N := 21) hx hb hts w_359 ty_Mo ty_Mo_ok nm_Mo hown hK hP hD hS 0 rfl rfl 6 (by decide) (hts _ w_417) (fun _ h9 => h9) rfl (by decide +kernel) rfl rfl (Nat.le_of_ble_eq_true rfl) d_Mo_readBlock_271 (fun H locs hP hD hS => ?_)
                  have hP : va_P (dC, dI) vwCl (wd_Mo_readBlock w wi wb wo wh wd wm wp wc wl cB cI cJ win won whn wat wdn wfo wmn wpn wbn wcn wat_242 wnu_242 wif wbf) H := hP
                  have hD : va_D A (wd_Mo_readBlock w wi wb wo wh wd wm wp wc wl cB cI cJ win won whn wat wdn wfo wmn wpn wbn wcn wat_242 wnu_242 wif wbf) := hD
                  refine lv_iconst (v := 3) hx hb d_Mo_readBlock_274 (by decide) ?_
                  cases hf
                  exact s_iret hx hb hr hlocks hP hK hD hS d_Mo_readBlock_275
              · have hf := br_pos c_245 hf
                refine lv_iconst (v := 1) hx hb d_Mo_readBlock_248 (by decide) ?_
                cases hf
                exact s_iret hx hb hr hlocks hP hK hD hS d_Mo_readBlock_249
            · have hf := br_neg c_224 hf
              exact k_Mo_readBlock_227 C hK hA wat win won whn wpl wdn wfo wmn wpn wbn wcn (wat + (2 : Int32)) wnu wif wbf  hf hP hD hS (lv_sub hl [2, 1] rfl)
        · have hf := br_neg c_171 hf
          refine lv_iconst (v := 1) hx hb d_Mo_readBlock_174 (by decide) ?_
          cases hf
          exact s_iret hx hb hr hlocks hP hK hD hS d_Mo_readBlock_175
      · have hf := br_pos c_153 hf
        refine lv_iconst (v := 0) hx hb d_Mo_readBlock_156 (by decide) ?_
        cases hf
        exact s_iret hx hb hr hlocks hP hK hD hS d_Mo_readBlock_157
    · have hf := br_neg c_70 hf
      refine lv_aload_n hx hb d_Mo_readBlock_73 rfl (lv_at hl 0 rfl) ?_
      refine va_get (D := (dC, dI)) (ci := 7) (v := .int wat) (C := R_Mo) (T := T_Mo) (N := 21) hx hb hts w_359 hown hK hP 0 rfl rfl 19 (by decide) (hts _ w_368) (fun _ h9 => h9) rfl d_Mo_readBlock_74 ?_
      refine lv_iload_n hx hb d_Mo_readBlock_77 rfl (lv_at hl 1 rfl) ?_
      refine lv_icmp_ne (tgt := 83) hx hb d_Mo_readBlock_78 (by decide) (fun c_78 => ?_) (fun c_78 => ?_)
      · have hf := br_neg c_78 hf
        refine lv_aload_n hx hb d_Mo_readBlock_83 rfl (lv_at hl 0 rfl) ?_
        refine va_get (D := (dC, dI)) (ci := 7) (v := .int wbn) (C := R_Mo) (T := T_Mo) (N := 21) hx hb hts w_359 hown hK hP 0 rfl rfl 15 (by decide) (hts _ w_375) (fun _ h9 => h9) rfl d_Mo_readBlock_84 ?_
        refine lv_iload hx hb d_Mo_readBlock_87 (lv_at hl 3 rfl) ?_
        refine lv_isub hx hb d_Mo_readBlock_89 ?_
        refine lv_iload_n hx hb d_Mo_readBlock_90 rfl (lv_at hl 2 rfl) ?_
        refine lv_icmp_ne (tgt := 104) hx hb d_Mo_readBlock_91 (by decide) (fun c_91 => ?_) (fun c_91 => ?_)
        · have hf := br_neg c_91 hf
          refine lv_aload_n hx hb d_Mo_readBlock_104 rfl (lv_at hl 0 rfl) ?_
          refine va_get (D := (dC, dI)) (ci := 7) (v := .ref wb) (C := R_Mo) (T := T_Mo) (N := 21) hx hb hts w_359 hown hK hP 0 rfl rfl 14 (by decide) (hts _ w_376) (fun _ h9 => h9) rfl d_Mo_readBlock_105 ?_
          refine lv_aload_n hx hb d_Mo_readBlock_108 rfl (lv_at hl 0 rfl) ?_
          refine va_get (D := (dC, dI)) (ci := 7) (v := .int wbn) (C := R_Mo) (T := T_Mo) (N := 21) hx hb hts w_359 hown hK hP 0 rfl rfl 15 (by decide) (hts _ w_375) (fun _ h9 => h9) rfl d_Mo_readBlock_109 ?_
          refine lv_aload_n hx hb d_Mo_readBlock_112 rfl (lv_at hl 0 rfl) ?_
          refine va_get (D := (dC, dI)) (ci := 7) (v := .ref wi) (C := R_Mo) (T := T_Mo) (N := 21) hx hb hts w_359 hown hK hP 0 rfl rfl 0 (by decide) (hts _ w_369) (fun _ h9 => h9) rfl d_Mo_readBlock_113 ?_
          refine lv_aload_n hx hb d_Mo_readBlock_116 rfl (lv_at hl 0 rfl) ?_
          refine va_get (D := (dC, dI)) (ci := 7) (v := .int wat) (C := R_Mo) (T := T_Mo) (N := 21) hx hb hts w_359 hown hK hP 0 rfl rfl 19 (by decide) (hts _ w_368) (fun _ h9 => h9) rfl d_Mo_readBlock_117 ?_
          obtain ⟨h_in, hf⟩ := as_some hf
          refine va_iald hx hb hK hP 1 1 rfl rfl h_in d_Mo_readBlock_120 ?_
          obtain ⟨h_in, hf⟩ := as_some hf
          refine va_iast hx hb hK hP hD hS 2 1 rfl rfl h_in d_Mo_readBlock_121 (fun H locs hP hD hS => ?_)
          have hP : va_P (dC, dI) vwCl (wd_Mo_readBlock w wi wb wo wh wd wm wp wc wl cB cI cJ win won whn wpl wdn wfo wmn wpn wbn wcn wat wnu wif (upd wbf wbn.toNatClampNeg (wif wat.toNatClampNeg))) H := hP
          have hD : va_D A (wd_Mo_readBlock w wi wb wo wh wd wm wp wc wl cB cI cJ win won whn wpl wdn wfo wmn wpn wbn wcn wat wnu wif (upd wbf wbn.toNatClampNeg (wif wat.toNatClampNeg))) := hD
          refine lv_aload_n hx hb d_Mo_readBlock_122 rfl (lv_at hl 0 rfl) ?_
          refine lv_dup hx hb d_Mo_readBlock_123 rfl ?_
          refine va_get (D := (dC, dI)) (ci := 7) (v := .int wbn) (C := R_Mo) (T := T_Mo) (N := 21) hx hb hts w_359 hown hK hP 0 rfl rfl 15 (by decide) (hts _ w_375) (fun _ h9 => h9) rfl d_Mo_readBlock_124 ?_
          refine lv_iconst (v := 1) hx hb d_Mo_readBlock_127 (by decide) ?_
          refine lv_iadd hx hb d_Mo_readBlock_128 ?_
          refine va_put (D := (dC, dI)) (ci := 7) (v := .int (wbn + (1 : Int32))) (ty := .int) (C := R_Mo) (T := T_Mo) (N := 21) hx hb hts w_359 ty_Mo ty_Mo_ok nm_Mo hown hK hP hD hS 0 rfl rfl 15 (by decide) (hts _ w_375) (fun _ h9 => h9) rfl (by decide +kernel) rfl rfl (Nat.le_of_ble_eq_true rfl) d_Mo_readBlock_129 (fun H locs hP hD hS => ?_)
          have hP : va_P (dC, dI) vwCl (wd_Mo_readBlock w wi wb wo wh wd wm wp wc wl cB cI cJ win won whn wpl wdn wfo wmn wpn (wbn + (1 : Int32)) wcn wat wnu wif (upd wbf wbn.toNatClampNeg (wif wat.toNatClampNeg))) H := hP
          have hD : va_D A (wd_Mo_readBlock w wi wb wo wh wd wm wp wc wl cB cI cJ win won whn wpl wdn wfo wmn wpn (wbn + (1 : Int32)) wcn wat wnu wif (upd wbf wbn.toNatClampNeg (wif wat.toNatClampNeg))) := hD
          refine lv_aload_n hx hb d_Mo_readBlock_132 rfl (lv_at hl 0 rfl) ?_
          refine lv_dup hx hb d_Mo_readBlock_133 rfl ?_
          refine va_get (D := (dC, dI)) (ci := 7) (v := .int wat) (C := R_Mo) (T := T_Mo) (N := 21) hx hb hts w_359 hown hK hP 0 rfl rfl 19 (by decide) (hts _ w_368) (fun _ h9 => h9) rfl d_Mo_readBlock_134 ?_
          refine lv_iconst (v := 1) hx hb d_Mo_readBlock_137 (by decide) ?_
          refine lv_iadd hx hb d_Mo_readBlock_138 ?_
          refine va_put (D := (dC, dI)) (ci := 7) (v := .int (wat + (1 : Int32))) (ty := .int) (C := R_Mo) (T := T_Mo) (N := 21) hx hb hts w_359 ty_Mo ty_Mo_ok nm_Mo hown hK hP hD hS 0 rfl rfl 19 (by decide) (hts _ w_368) (fun _ h9 => h9) rfl (by decide +kernel) rfl rfl (Nat.le_of_ble_eq_true rfl) d_Mo_readBlock_139 (fun H locs hP hD hS => ?_)
          have hP : va_P (dC, dI) vwCl (wd_Mo_readBlock w wi wb wo wh wd wm wp wc wl cB cI cJ win won whn wpl wdn wfo wmn wpn (wbn + (1 : Int32)) wcn (wat + (1 : Int32)) wnu wif (upd wbf wbn.toNatClampNeg (wif wat.toNatClampNeg))) H := hP
          have hD : va_D A (wd_Mo_readBlock w wi wb wo wh wd wm wp wc wl cB cI cJ win won whn wpl wdn wfo wmn wpn (wbn + (1 : Int32)) wcn (wat + (1 : Int32)) wnu wif (upd wbf wbn.toNatClampNeg (wif wat.toNatClampNeg))) := hD
          refine lv_iinc (v := (x6 + (-1))) (lv' := [(6, .int (x6 + (-1))), (0, .ref w), (2, .int x2), (3, .int x3), (4, .int x4), (5, .int x5)]) hx hb d_Mo_readBlock_142 hl (k := 5) rfl (congrArg (fun z => x6 + z) (by decide)) (by decide) rfl (fun ls hl => ?_)
          refine lv_goto (tgt := 68) hx hb d_Mo_readBlock_145 (by decide) ?_
          exact ih68 (x6 + (-1)) (wbn + (1 : Int32)) (wat + (1 : Int32)) (upd wbf wbn.toNatClampNeg (wif wat.toNatClampNeg)) hf _ _ hP hD hS _ (lv_sub hl [1, 2, 3, 4, 5, 0] rfl)
        · have hf := br_pos c_91 hf
          refine lv_aload_n hx hb d_Mo_readBlock_94 rfl (lv_at hl 0 rfl) ?_
          refine lv_aload_n hx hb d_Mo_readBlock_95 rfl (lv_at hl 0 rfl) ?_
          refine va_get (D := (dC, dI)) (ci := 7) (v := .int wat) (C := R_Mo) (T := T_Mo) (N := 21) hx hb hts w_359 hown hK hP 0 rfl rfl 19 (by decide) (hts _ w_368) (fun _ h9 => h9) rfl d_Mo_readBlock_96 ?_
          refine va_put (D := (dC, dI)) (ci := 7) (v := .int wat) (ty := .int) (C := R_Mo) (T := T_Mo) (N := 21) hx hb hts w_359 ty_Mo ty_Mo_ok nm_Mo hown hK hP hD hS 0 rfl rfl 6 (by decide) (hts _ w_417) (fun _ h9 => h9) rfl (by decide +kernel) rfl rfl (Nat.le_of_ble_eq_true rfl) d_Mo_readBlock_99 (fun H locs hP hD hS => ?_)
          have hP : va_P (dC, dI) vwCl (wd_Mo_readBlock w wi wb wo wh wd wm wp wc wl cB cI cJ win won whn wat wdn wfo wmn wpn wbn wcn wat wnu wif wbf) H := hP
          have hD : va_D A (wd_Mo_readBlock w wi wb wo wh wd wm wp wc wl cB cI cJ win won whn wat wdn wfo wmn wpn wbn wcn wat wnu wif wbf) := hD
          refine lv_iconst (v := 3) hx hb d_Mo_readBlock_102 (by decide) ?_
          cases hf
          exact s_iret hx hb hr hlocks hP hK hD hS d_Mo_readBlock_103
      · have hf := br_pos c_78 hf
        refine lv_iconst (v := 1) hx hb d_Mo_readBlock_81 (by decide) ?_
        cases hf
        exact s_iret hx hb hr hlocks hP hK hD hS d_Mo_readBlock_82
noncomputable def b_Mo_readBlock_11 (N : Nat) (x2 : Int32) (x3 : Int32) (x4 : Int32) (wif : Nat → Int32)  (kh11 : Int32 → Int32 → Int32 → Int32 → (Nat → Int32) → Option (Int32 × Int32 × Int32 × Int32 × Int32 × (Nat → Int32))) (wpl : Int32) (wbn : Int32) (wat : Int32) (wnu : Int32) (wbf : Nat → Int32) : Option (Int32 × Int32 × Int32 × Int32 × Int32 × (Nat → Int32)) :=
  (if wat = x2 then (some ((1 : Int32), x2, wbn, wat, wnu, wbf) : Option (Int32 × Int32 × Int32 × Int32 × Int32 × (Nat → Int32))) else as_ (vp_in wat 8000) (bd3 (f_Mo_adds N ((wif wat.toNatClampNeg) / (16 : Int32)) x2 (wat + (1 : Int32)) wif) (fun r54 wat_54 wnu_54 => (if r54 = 0 then (some ((1 : Int32), x2, wbn, wat_54, wnu_54, wbf) : Option (Int32 × Int32 × Int32 × Int32 × Int32 × (Nat → Int32))) else (loop4 (b_Mo_readBlock_68 N x2 x3 x4 (wif wat.toNatClampNeg) x2 wnu_54 wif kh11) N wnu_54 wbn wat_54 wbf)))))
set_option maxHeartbeats 4000000 in
set_option maxRecDepth 100000 in
theorem k_Mo_readBlock_11 {r_z : Int32} {wpl_z : Int32} {wbn_z : Int32} {wat_z : Int32} {wnu_z : Int32} {wbf_z : Nat → Int32} (C : Fx p s m args meth c cd_Mo_readBlock 9 R_Mo lw_g (some .int)) (hK : va_K (dC, dI) vwCl [(cB, .byte), (cI, .int), (cJ, .long)] s) (hA : ∀ q, s.heap.size ≤ q → A q) (x2 : Int32) (x3 : Int32) (x4 : Int32) (win : Int32) (won : Int32) (whn : Int32) (wdn : Int32) (wfo : Int32) (wmn : Int32) (wpn : Int32) (wcn : Int32) (wif : Nat → Int32)  : ∀ (n : Nat) (wpl : Int32) (wbn : Int32) (wat : Int32) (wnu : Int32) (wbf : Nat → Int32), loop5 (b_Mo_readBlock_11 N x2 x3 x4 wif ) n wpl wbn wat wnu wbf = some (r_z, wpl_z, wbn_z, wat_z, wnu_z, wbf_z) → ∀ (H : Heap) (locs : List Loc), va_P (dC, dI) vwCl (wd_Mo_readBlock w wi wb wo wh wd wm wp wc wl cB cI cJ win won whn wpl wdn wfo wmn wpn wbn wcn wat wnu wif wbf) H → va_D A (wd_Mo_readBlock w wi wb wo wh wd wm wp wc wl cB cI cJ win won whn wpl wdn wfo wmn wpn wbn wcn wat wnu wif wbf) → va_S A s.heap H locs → ∀ (ls : Array Slot), lv_has ls 9 [(0, .ref w), (2, .int x2), (3, .int x3), (4, .int x4)] → W p l e rm_Mo_readBlock s m args below meth c H locs 0 0 (MQ below (sQi (dC, dI) vwCl [(cB, .byte), (cI, .int), (cJ, .long)] A r_z (wd_Mo_readBlock w wi wb wo wh wd wm wp wc wl cB cI cJ win won whn wpl_z wdn wfo wmn wpn wbn_z wcn wat_z wnu_z wif wbf_z)) args s 0 0 A) (F0 m 11 ls []) := by
  obtain ⟨hx, hb, hml, hown, hts, hr, hlocks, hZ⟩ := id C
  intro n
  induction n with
  | zero => intro wpl wbn wat wnu wbf hf; cases hf
  | succ n ih11 =>
    intro wpl wbn wat wnu wbf hf H locs hP hD hS ls hl
    have hf : b_Mo_readBlock_11 N x2 x3 x4 wif  (loop5 (b_Mo_readBlock_11 N x2 x3 x4 wif ) n) wpl wbn wat wnu wbf = some (r_z, wpl_z, wbn_z, wat_z, wnu_z, wbf_z) := hf
    generalize loop5 (b_Mo_readBlock_11 N x2 x3 x4 wif ) n = kh11 at hf ih11
    unfold b_Mo_readBlock_11 at hf
    refine lv_aload_n hx hb d_Mo_readBlock_11 rfl (lv_at hl 0 rfl) ?_
    refine lv_iload_n hx hb d_Mo_readBlock_12 rfl (lv_at hl 1 rfl) ?_
    refine va_put (D := (dC, dI)) (ci := 7) (v := .int x2) (ty := .int) (C := R_Mo) (T := T_Mo) (N := 21) hx hb hts w_359 ty_Mo ty_Mo_ok nm_Mo hown hK hP hD hS 0 rfl rfl 6 (by decide) (hts _ w_417) (fun _ h9 => h9) rfl (by decide +kernel) rfl rfl (Nat.le_of_ble_eq_true rfl) d_Mo_readBlock_13 (fun H locs hP hD hS => ?_)
    have hP : va_P (dC, dI) vwCl (wd_Mo_readBlock w wi wb wo wh wd wm wp wc wl cB cI cJ win won whn x2 wdn wfo wmn wpn wbn wcn wat wnu wif wbf) H := hP
    have hD : va_D A (wd_Mo_readBlock w wi wb wo wh wd wm wp wc wl cB cI cJ win won whn x2 wdn wfo wmn wpn wbn wcn wat wnu wif wbf) := hD
    refine lv_aload_n hx hb d_Mo_readBlock_16 rfl (lv_at hl 0 rfl) ?_
    refine va_get (D := (dC, dI)) (ci := 7) (v := .int wat) (C := R_Mo) (T := T_Mo) (N := 21) hx hb hts w_359 hown hK hP 0 rfl rfl 19 (by decide) (hts _ w_368) (fun _ h9 => h9) rfl d_Mo_readBlock_17 ?_
    refine lv_iload_n hx hb d_Mo_readBlock_20 rfl (lv_at hl 1 rfl) ?_
    refine lv_icmp_ne (tgt := 26) hx hb d_Mo_readBlock_21 (by decide) (fun c_21 => ?_) (fun c_21 => ?_)
    · have hf := br_neg c_21 hf
      refine lv_aload_n hx hb d_Mo_readBlock_26 rfl (lv_at hl 0 rfl) ?_
      refine va_get (D := (dC, dI)) (ci := 7) (v := .ref wi) (C := R_Mo) (T := T_Mo) (N := 21) hx hb hts w_359 hown hK hP 0 rfl rfl 0 (by decide) (hts _ w_369) (fun _ h9 => h9) rfl d_Mo_readBlock_27 ?_
      refine lv_aload_n hx hb d_Mo_readBlock_30 rfl (lv_at hl 0 rfl) ?_
      refine va_get (D := (dC, dI)) (ci := 7) (v := .int wat) (C := R_Mo) (T := T_Mo) (N := 21) hx hb hts w_359 hown hK hP 0 rfl rfl 19 (by decide) (hts _ w_368) (fun _ h9 => h9) rfl d_Mo_readBlock_31 ?_
      obtain ⟨h_in, hf⟩ := as_some hf
      refine va_iald hx hb hK hP 1 1 rfl rfl h_in d_Mo_readBlock_34 ?_
      refine lv_istore (lv' := [(5, .int (wif wat.toNatClampNeg)), (0, .ref w), (2, .int x2), (3, .int x3), (4, .int x4)]) hx hb d_Mo_readBlock_35 hl (by decide) rfl (fun ls hl => ?_)
      refine lv_aload_n hx hb d_Mo_readBlock_37 rfl (lv_at hl 1 rfl) ?_
      refine lv_dup hx hb d_Mo_readBlock_38 rfl ?_
      refine va_get (D := (dC, dI)) (ci := 7) (v := .int wat) (C := R_Mo) (T := T_Mo) (N := 21) hx hb hts w_359 hown hK hP 0 rfl rfl 19 (by decide) (hts _ w_368) (fun _ h9 => h9) rfl d_Mo_readBlock_39 ?_
      refine lv_iconst (v := 1) hx hb d_Mo_readBlock_42 (by decide) ?_
      refine lv_iadd hx hb d_Mo_readBlock_43 ?_
      refine va_put (D := (dC, dI)) (ci := 7) (v := .int (wat + (1 : Int32))) (ty := .int) (C := R_Mo) (T := T_Mo) (N := 21) hx hb hts w_359 ty_Mo ty_Mo_ok nm_Mo hown hK hP hD hS 0 rfl rfl 19 (by decide) (hts _ w_368) (fun _ h9 => h9) rfl (by decide +kernel) rfl rfl (Nat.le_of_ble_eq_true rfl) d_Mo_readBlock_44 (fun H locs hP hD hS => ?_)
      have hP : va_P (dC, dI) vwCl (wd_Mo_readBlock w wi wb wo wh wd wm wp wc wl cB cI cJ win won whn x2 wdn wfo wmn wpn wbn wcn (wat + (1 : Int32)) wnu wif wbf) H := hP
      have hD : va_D A (wd_Mo_readBlock w wi wb wo wh wd wm wp wc wl cB cI cJ win won whn x2 wdn wfo wmn wpn wbn wcn (wat + (1 : Int32)) wnu wif wbf) := hD
      refine lv_aload_n hx hb d_Mo_readBlock_47 rfl (lv_at hl 1 rfl) ?_
      refine lv_iload hx hb d_Mo_readBlock_48 (lv_at hl 0 rfl) ?_
      refine lv_bipush (v := 16) hx hb d_Mo_readBlock_50 (by decide) ?_
      refine lv_idiv hx hb d_Mo_readBlock_52 (by decide) ?_
      refine lv_iload_n hx hb d_Mo_readBlock_53 rfl (lv_at hl 2 rfl) ?_
      obtain ⟨r54, wat_54, wnu_54, hc54, hf⟩ := bd3_some hf
      refine s_Vi (As := [.int ((wif wat.toNatClampNeg) / (16 : Int32)), .int x2]) (rest := []) (wr := [(wb, .inl (cI, 16000, .inl wbf))]) (ws' := wd_Mo_readBlock w wi wb wo wh wd wm wp wc wl cB cI cJ win won whn x2 wdn wfo wmn wpn wbn wcn wat_54 wnu_54 wif wbf) C.call (c_Mo_adds l dC dI cB cI cJ w wi wo wh wd wm wp wb wc wl  win won whn x2 wdn wfo wmn wpn wbn wcn (wat + (1 : Int32)) wnu wif ((wif wat.toNatClampNeg) / (16 : Int32)) x2 hc54) (cwV 2 hts (gd_V w_454 w_455 w_456 w_365 w_457) rfl rfl rfl ⟨rfl, hd_Mo_adds⟩ ⟨Nat.le_of_ble_eq_true rfl, Nat.le_of_ble_eq_true rfl⟩) rfl hl.1 rfl (Nat.le_of_ble_eq_true rfl) d_Mo_readBlock_54 ⟨Nat.le_of_ble_eq_true rfl, Nat.le_of_ble_eq_true rfl⟩ hZ hK hP hD hS hA 7 0 rfl rfl [0, 1] [2] [1, 2, 0] rfl rfl rfl rfl (by decide) rfl rfl (fun H locs hP hD hS => ?_)
      refine lv_if_ne (tgt := 62) hx hb d_Mo_readBlock_57 (by decide) (fun c_57 => ?_) (fun c_57 => ?_)
      · have hf := br_neg c_57 hf
        refine lv_aload_n hx hb d_Mo_readBlock_62 rfl (lv_at hl 1 rfl) ?_
        refine va_get (D := (dC, dI)) (ci := 7) (v := .int wnu_54) (C := R_Mo) (T := T_Mo) (N := 21) hx hb hts w_359 hown hK hP 0 rfl rfl 20 (by decide) (hts _ w_367) (fun _ h9 => h9) rfl d_Mo_readBlock_63 ?_
        refine lv_istore (lv' := [(6, .int wnu_54), (5, .int (wif wat.toNatClampNeg)), (0, .ref w), (2, .int x2), (3, .int x3), (4, .int x4)]) hx hb d_Mo_readBlock_66 hl (by decide) rfl (fun ls hl => ?_)
        exact k_Mo_readBlock_68 C hK hA x2 x3 x4 (wif wat.toNatClampNeg) win won whn x2 wdn wfo wmn wpn wcn wnu_54 wif kh11 ih11 N wnu_54 wbn wat_54 wbf hf _ _ hP hD hS _ (lv_sub hl [2, 3, 4, 5, 1, 0] rfl)
      · have hf := br_pos c_57 hf
        refine lv_iconst (v := 1) hx hb d_Mo_readBlock_60 (by decide) ?_
        cases hf
        exact s_iret hx hb hr hlocks hP hK hD hS d_Mo_readBlock_61
    · have hf := br_pos c_21 hf
      refine lv_iconst (v := 1) hx hb d_Mo_readBlock_24 (by decide) ?_
      cases hf
      exact s_iret hx hb hr hlocks hP hK hD hS d_Mo_readBlock_25
noncomputable def j_Mo_readBlock_0 (N : Nat) (x1 : Int32) (x2 : Int32) (x3 : Int32) (wpl : Int32) (wbn : Int32) (wnu : Int32) (wif : Nat → Int32) (wbf : Nat → Int32)  : Option (Int32 × Int32 × Int32 × Int32 × Int32 × (Nat → Int32)) :=
  (loop5 (b_Mo_readBlock_11 N x2 x3 wbn wif ) N wpl wbn x1 wnu wbf)
set_option maxHeartbeats 4000000 in
set_option maxRecDepth 100000 in
theorem k_Mo_readBlock_0 {r_z : Int32} {wpl_z : Int32} {wbn_z : Int32} {wat_z : Int32} {wnu_z : Int32} {wbf_z : Nat → Int32} (C : Fx p s m args meth c cd_Mo_readBlock 9 R_Mo lw_g (some .int)) (hK : va_K (dC, dI) vwCl [(cB, .byte), (cI, .int), (cJ, .long)] s) (hA : ∀ q, s.heap.size ≤ q → A q) (x1 : Int32) (x2 : Int32) (x3 : Int32) (win : Int32) (won : Int32) (whn : Int32) (wpl : Int32) (wdn : Int32) (wfo : Int32) (wmn : Int32) (wpn : Int32) (wbn : Int32) (wcn : Int32) (wat : Int32) (wnu : Int32) (wif : Nat → Int32) (wbf : Nat → Int32)  (hf : j_Mo_readBlock_0 N x1 x2 x3 wpl wbn wnu wif wbf  = some (r_z, wpl_z, wbn_z, wat_z, wnu_z, wbf_z)) (hP : va_P (dC, dI) vwCl (wd_Mo_readBlock w wi wb wo wh wd wm wp wc wl cB cI cJ win won whn wpl wdn wfo wmn wpn wbn wcn wat wnu wif wbf) H) (hD : va_D A (wd_Mo_readBlock w wi wb wo wh wd wm wp wc wl cB cI cJ win won whn wpl wdn wfo wmn wpn wbn wcn wat wnu wif wbf)) (hS : va_S A s.heap H locs) (hl : lv_has ls 9 [(0, .ref w), (1, .int x1), (2, .int x2), (3, .int x3)]) : W p l e rm_Mo_readBlock s m args below meth c H locs 0 0 (MQ below (sQi (dC, dI) vwCl [(cB, .byte), (cI, .int), (cJ, .long)] A r_z (wd_Mo_readBlock w wi wb wo wh wd wm wp wc wl cB cI cJ win won whn wpl_z wdn wfo wmn wpn wbn_z wcn wat_z wnu_z wif wbf_z)) args s 0 0 A) (F0 m 0 ls []) := by
  obtain ⟨hx, hb, hml, hown, hts, hr, hlocks, hZ⟩ := id C
  unfold j_Mo_readBlock_0 at hf
  refine lv_aload_n hx hb d_Mo_readBlock_0 rfl (lv_at hl 0 rfl) ?_
  refine lv_iload_n hx hb d_Mo_readBlock_1 rfl (lv_at hl 1 rfl) ?_
  refine va_put (D := (dC, dI)) (ci := 7) (v := .int x1) (ty := .int) (C := R_Mo) (T := T_Mo) (N := 21) hx hb hts w_359 ty_Mo ty_Mo_ok nm_Mo hown hK hP hD hS 0 rfl rfl 19 (by decide) (hts _ w_368) (fun _ h9 => h9) rfl (by decide +kernel) rfl rfl (Nat.le_of_ble_eq_true rfl) d_Mo_readBlock_2 (fun H locs hP hD hS => ?_)
  have hP : va_P (dC, dI) vwCl (wd_Mo_readBlock w wi wb wo wh wd wm wp wc wl cB cI cJ win won whn wpl wdn wfo wmn wpn wbn wcn x1 wnu wif wbf) H := hP
  have hD : va_D A (wd_Mo_readBlock w wi wb wo wh wd wm wp wc wl cB cI cJ win won whn wpl wdn wfo wmn wpn wbn wcn x1 wnu wif wbf) := hD
  refine lv_aload_n hx hb d_Mo_readBlock_5 rfl (lv_at hl 0 rfl) ?_
  refine va_get (D := (dC, dI)) (ci := 7) (v := .int wbn) (C := R_Mo) (T := T_Mo) (N := 21) hx hb hts w_359 hown hK hP 0 rfl rfl 15 (by decide) (hts _ w_375) (fun _ h9 => h9) rfl d_Mo_readBlock_6 ?_
  refine lv_istore (lv' := [(4, .int wbn), (0, .ref w), (1, .int x1), (2, .int x2), (3, .int x3)]) hx hb d_Mo_readBlock_9 hl (by decide) rfl (fun ls hl => ?_)
  exact k_Mo_readBlock_11 C hK hA x2 x3 wbn win won whn wdn wfo wmn wpn wcn wif  N wpl wbn x1 wnu wbf hf _ _ hP hD hS _ (lv_sub hl [1, 3, 4, 0] rfl)
end
noncomputable abbrev f_Mo_readBlock (N : Nat) (x1 : Int32) (x2 : Int32) (x3 : Int32) (wpl : Int32) (wbn : Int32) (wnu : Int32) (wif : Nat → Int32) (wbf : Nat → Int32) : Option (Int32 × Int32 × Int32 × Int32 × Int32 × (Nat → Int32)) := j_Mo_readBlock_0 N x1 x2 x3 wpl wbn wnu wif wbf
set_option maxRecDepth 100000 in
theorem c_Mo_readBlock {N : Nat} (l : Launch) (dC : Nat → ClassId) (dI : Nat → Nat → Nat) (cB cI cJ : ClassId) (w wi wb wo wh wd wm wp wc wl : Nat) (win : Int32) (won : Int32) (whn : Int32) (wpl : Int32) (wdn : Int32) (wfo : Int32) (wmn : Int32) (wpn : Int32) (wbn : Int32) (wcn : Int32) (wat : Int32) (wnu : Int32) (wif : Nat → Int32) (wbf : Nat → Int32) (x1 : Int32) (x2 : Int32) (x3 : Int32) {r_z : Int32} {wpl_z : Int32} {wbn_z : Int32} {wat_z : Int32} {wnu_z : Int32} {wbf_z : Nat → Int32} (hf : f_Mo_readBlock N x1 x2 x3 wpl wbn wnu wif wbf = some (r_z, wpl_z, wbn_z, wat_z, wnu_z, wbf_z)) : MetI l y_Mo_readBlock ws_Mo_readBlock rm_Mo_readBlock (dC, dI) vwCl [(cB, .byte), (cI, .int), (cJ, .long)] [.ref w, .int x1, .int x2, .int x3] (wd_Mo_readBlock w wi wb wo wh wd wm wp wc wl cB cI cJ win won whn wpl wdn wfo wmn wpn wbn wcn wat wnu wif wbf) r_z (wd_Mo_readBlock w wi wb wo wh wd wm wp wc wl cB cI cJ win won whn wpl_z wdn wfo wmn wpn wbn_z wcn wat_z wnu_z wif wbf_z) 0 0 :=
  s_ofi (bytes := cd_Mo_readBlock) (maxL := 9) (ret := (some .int)) (by decide) rfl (Nat.le_of_ble_eq_true rfl) (fun p e s m below meth c A ls C hK hA hP hD hS hl => k_Mo_readBlock_0 C hK hA x1 x2 x3 win won whn wpl wdn wfo wmn wpn wbn wcn wat wnu wif wbf hf hP hD hS (lv_sub hl [0, 1, 2, 3] rfl))
