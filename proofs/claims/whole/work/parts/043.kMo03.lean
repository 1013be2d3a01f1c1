abbrev wd_Mo_times (cB cI cJ : ClassId) : va_W := []
abbrev rm_Mo_times : Room := { frames := 0, cells := 0, slots := 0, locals := 0 }
section
variable {p : Program} {l : Launch} {e : Env} {s : State} {m : MethodId} {args : Array Value} {below : List Frame} {meth : Method} {c : Code} {dC : Nat → ClassId} {dI : Nat → Nat → Nat} {A : Nat → Prop} {cB cI cJ : ClassId} {H : Heap} {locs : List Loc} {ls : Array Slot} {N : Nat} 
noncomputable def j_Mo_times_0 (x0 : Int64) (x2 : Int64)  : Option (Int64) :=
  (some ((x0 * x2) &&& (4294967295 : Int64)) : Option (Int64))
set_option maxHeartbeats 4000000 in
set_option maxRecDepth 100000 in
theorem k_Mo_times_0 {r_z : Int64} (C : Fx p s m args meth c cd_Mo_times 4 R_Mo lw_g (some .long)) (hK : va_K (dC, dI) vwCl [(cB, .byte), (cI, .int), (cJ, .long)] s) (hA : ∀ q, s.heap.size ≤ q → A q) (x0 : Int64) (x2 : Int64)  (hf : j_Mo_times_0 x0 x2  = some r_z) (hP : va_P (dC, dI) vwCl (wd_Mo_times cB cI cJ) H) (hD : va_D A (wd_Mo_times cB cI cJ)) (hS : va_S A s.heap H locs) (hl : lv_has ls 4 [(0, .long x0), (2, .long x2)]) : W p l e rm_Mo_times s m args below meth c H locs 0 0 (MQ below (sQl (dC, dI) vwCl [(cB, .byte), (cI, .int), (cJ, .long)] A r_z (wd_Mo_times cB cI cJ)) args s 0 0 A) (F0 m 0 ls []) := by
  obtain ⟨hx, hb, hml, hown, hts, hr, hlocks, hZ⟩ := id C
  unfold j_Mo_times_0 at hf
  refine lv_lload_n hx hb d_Mo_times_0 rfl (lv_at hl 0 rfl) ?_
  refine lv_lload_n hx hb d_Mo_times_1 rfl (lv_at hl 1 rfl) ?_
  refine lv_lmul hx hb d_Mo_times_2 ?_
  refine lv_ldc2 (v := 4294967295) hx hb hown (hts _ w_425) d_Mo_times_3 ?_
  refine lv_land hx hb d_Mo_times_6 ?_
  cases hf
  exact s_lret hx hb hr hlocks hP hK hD hS d_Mo_times_7
end
noncomputable abbrev f_Mo_times (x0 : Int64) (x2 : Int64) : Option (Int64) := j_Mo_times_0 x0 x2
set_option maxRecDepth 100000 in
theorem c_Mo_times (l : Launch) (dC : Nat → ClassId) (dI : Nat → Nat → Nat) (cB cI cJ : ClassId)   (x0 : Int64) (x2 : Int64) {r_z : Int64} (hf : f_Mo_times x0 x2 = some r_z) : MetL l y_Mo_times ws_Mo_times rm_Mo_times (dC, dI) vwCl [(cB, .byte), (cI, .int), (cJ, .long)] [.long x0, .long x2] (wd_Mo_times cB cI cJ) r_z (wd_Mo_times cB cI cJ) 0 0 :=
  s_ofl (bytes := cd_Mo_times) (maxL := 4) (ret := (some .long)) (by decide) rfl (Nat.le_of_ble_eq_true rfl) (fun p e s m below meth c A ls C hK hA hP hD hS hl => k_Mo_times_0 C hK hA x0 x2 hf hP hD hS (lv_sub hl [0, 1] rfl))

abbrev wd_Mo_turned (cB cI cJ : ClassId) : va_W := []
abbrev rm_Mo_turned : Room := { frames := 0, cells := 0, slots := 0, locals := 0 }
section
variable {p : Program} {l : Launch} {e : Env} {s : State} {m : MethodId} {args : Array Value} {below : List Frame} {meth : Method} {c : Code} {dC : Nat → ClassId} {dI : Nat → Nat → Nat} {A : Nat → Prop} {cB cI cJ : ClassId} {H : Heap} {locs : List Loc} {ls : Array Slot} {N : Nat} 
noncomputable def j_Mo_turned_0 (x0 : Int64) (x2 : Int32)  : Option (Int64) :=
  (some (((sl64 x0 x2) ||| (sr64 x0 ((32 : Int32) - x2))) &&& (4294967295 : Int64)) : Option (Int64))
set_option maxHeartbeats 4000000 in
set_option maxRecDepth 100000 in
theorem k_Mo_turned_0 {r_z : Int64} (C : Fx p s m args meth c cd_Mo_turned 3 R_Mo lw_g (some .long)) (hK : va_K (dC, dI) vwCl [(cB, .byte), (cI, .int), (cJ, .long)] s) (hA : ∀ q, s.heap.size ≤ q → A q) (x0 : Int64) (x2 : Int32)  (hf : j_Mo_turned_0 x0 x2  = some r_z) (hP : va_P (dC, dI) vwCl (wd_Mo_turned cB cI cJ) H) (hD : va_D A (wd_Mo_turned cB cI cJ)) (hS : va_S A s.heap H locs) (hl : lv_has ls 3 [(0, .long x0), (2, .int x2)]) : W p l e rm_Mo_turned s m args below meth c H locs 0 0 (MQ below (sQl (dC, dI) vwCl [(cB, .byte), (cI, .int), (cJ, .long)] A r_z (wd_Mo_turned cB cI cJ)) args s 0 0 A) (F0 m 0 ls []) := by
  obtain ⟨hx, hb, hml, hown, hts, hr, hlocks, hZ⟩ := id C
  unfold j_Mo_turned_0 at hf
  refine lv_lload_n hx hb d_Mo_turned_0 rfl (lv_at hl 0 rfl) ?_
  refine lv_iload_n hx hb d_Mo_turned_1 rfl (lv_at hl 1 rfl) ?_
  refine lv_lshl (v := (sl64 x0 x2)) hx hb d_Mo_turned_2 rfl ?_
  refine lv_lload_n hx hb d_Mo_turned_3 rfl (lv_at hl 0 rfl) ?_
  refine lv_bipush (v := 32) hx hb d_Mo_turned_4 (by decide) ?_
  refine lv_iload_n hx hb d_Mo_turned_6 rfl (lv_at hl 1 rfl) ?_
  refine lv_isub hx hb d_Mo_turned_7 ?_
  refine lv_lshr (v := (sr64 x0 ((32 : Int32) - x2))) hx hb d_Mo_turned_8 rfl ?_
  refine lv_lor hx hb d_Mo_turned_9 ?_
  refine lv_ldc2 (v := 4294967295) hx hb hown (hts _ w_425) d_Mo_turned_10 ?_
  refine lv_land hx hb d_Mo_turned_13 ?_
  cases hf
  exact s_lret hx hb hr hlocks hP hK hD hS d_Mo_turned_14
end
noncomputable abbrev f_Mo_turned (x0 : Int64) (x2 : Int32) : Option (Int64) := j_Mo_turned_0 x0 x2
set_option maxRecDepth 100000 in
theorem c_Mo_turned (l : Launch) (dC : Nat → ClassId) (dI : Nat → Nat → Nat) (cB cI cJ : ClassId)   (x0 : Int64) (x2 : Int32) {r_z : Int64} (hf : f_Mo_turned x0 x2 = some r_z) : MetL l y_Mo_turned ws_Mo_turned rm_Mo_turned (dC, dI) vwCl [(cB, .byte), (cI, .int), (cJ, .long)] [.long x0, .int x2] (wd_Mo_turned cB cI cJ) r_z (wd_Mo_turned cB cI cJ) 0 0 :=
  s_ofl (bytes := cd_Mo_turned) (maxL := 3) (ret := (some .long)) (by decide) rfl (Nat.le_of_ble_eq_true rfl) (fun p e s m below meth c A ls C hK hA hP hD hS hl => k_Mo_turned_0 C hK hA x0 x2 hf hP hD hS (lv_sub hl [0, 1] rfl))

abbrev wd_Mo_word (a : Nat) (cB cI cJ : ClassId) (aL : Nat) (af : Nat → Int32) : va_W := [(a, .inl (cI, aL, .inl af))]
abbrev rm_Mo_word : Room := { frames := 0, cells := 0, slots := 0, locals := 0 }
section
variable {p : Program} {l : Launch} {e : Env} {s : State} {m : MethodId} {args : Array Value} {below : List Frame} {meth : Method} {c : Code} {dC : Nat → ClassId} {dI : Nat → Nat → Nat} {A : Nat → Prop} {cB cI cJ : ClassId} {H : Heap} {locs : List Loc} {ls : Array Slot} {N : Nat} {a aL : Nat}
noncomputable def j_Mo_word_0 (aL : Nat) (x1 : Int32) (af : Nat → Int32)  : Option (Int64) :=
  as_ (vp_in x1 aL) (as_ (vp_in (x1 + (1 : Int32)) aL) (as_ (vp_in (x1 + (2 : Int32)) aL) (as_ (vp_in (x1 + (3 : Int32)) aL) ((some (((((af x1.toNatClampNeg).toInt64) ||| (sl64 ((af (x1 + (1 : Int32)).toNatClampNeg).toInt64) (8 : Int32))) ||| (sl64 ((af (x1 + (2 : Int32)).toNatClampNeg).toInt64) (16 : Int32))) ||| (sl64 ((af (x1 + (3 : Int32)).toNatClampNeg).toInt64) (24 : Int32))) : Option (Int64))))))
set_option maxHeartbeats 4000000 in
set_option maxRecDepth 100000 in
theorem k_Mo_word_0 {r_z : Int64} (C : Fx p s m args meth c cd_Mo_word 2 R_Mo lw_g (some .long)) (hK : va_K (dC, dI) vwCl [(cB, .byte), (cI, .int), (cJ, .long)] s) (hA : ∀ q, s.heap.size ≤ q → A q) (x1 : Int32) (af : Nat → Int32)  (hf : j_Mo_word_0 aL x1 af  = some r_z) (hP : va_P (dC, dI) vwCl (wd_Mo_word a cB cI cJ aL af) H) (hD : va_D A (wd_Mo_word a cB cI cJ aL af)) (hS : va_S A s.heap H locs) (hl : lv_has ls 2 [(0, .ref a), (1, .int x1)]) : W p l e rm_Mo_word s m args below meth c H locs 0 0 (MQ below (sQl (dC, dI) vwCl [(cB, .byte), (cI, .int), (cJ, .long)] A r_z (wd_Mo_word a cB cI cJ aL af)) args s 0 0 A) (F0 m 0 ls []) := by
  obtain ⟨hx, hb, hml, hown, hts, hr, hlocks, hZ⟩ := id C
  unfold j_Mo_word_0 at hf
  refine lv_aload_n hx hb d_Mo_word_0 rfl (lv_at hl 0 rfl) ?_
  refine lv_iload_n hx hb d_Mo_word_1 rfl (lv_at hl 1 rfl) ?_
  obtain ⟨h_in, hf⟩ := as_some hf
  refine va_iald hx hb hK hP 0 1 rfl rfl h_in d_Mo_word_2 ?_
  refine lv_i2l (v := ((af x1.toNatClampNeg).toInt64)) hx hb d_Mo_word_3 rfl ?_
  refine lv_aload_n hx hb d_Mo_word_4 rfl (lv_at hl 0 rfl) ?_
  refine lv_iload_n hx hb d_Mo_word_5 rfl (lv_at hl 1 rfl) ?_
  refine lv_iconst (v := 1) hx hb d_Mo_word_6 (by decide) ?_
  refine lv_iadd hx hb d_Mo_word_7 ?_
  obtain ⟨h_in, hf⟩ := as_some hf
  refine va_iald hx hb hK hP 0 1 rfl rfl h_in d_Mo_word_8 ?_
  refine lv_i2l (v := ((af (x1 + (1 : Int32)).toNatClampNeg).toInt64)) hx hb d_Mo_word_9 rfl ?_
  refine lv_bipush (v := 8) hx hb d_Mo_word_10 (by decide) ?_
  refine lv_lshl (v := (sl64 ((af (x1 + (1 : Int32)).toNatClampNeg).toInt64) (8 : Int32))) hx hb d_Mo_word_12 rfl ?_
  refine lv_lor hx hb d_Mo_word_13 ?_
  refine lv_aload_n hx hb d_Mo_word_14 rfl (lv_at hl 0 rfl) ?_
  refine lv_iload_n hx hb d_Mo_word_15 rfl (lv_at hl 1 rfl) ?_
  refine lv_iconst (v := 2) hx hb d_Mo_word_16 (by decide) ?_
  refine lv_iadd hx hb d_Mo_word_17 ?_
  obtain ⟨h_in, hf⟩ := as_some hf
  refine va_iald hx hb hK hP 0 1 rfl rfl h_in d_Mo_word_18 ?_
  refine lv_i2l (v := ((af (x1 + (2 : Int32)).toNatClampNeg).toInt64)) hx hb d_Mo_word_19 rfl ?_
  refine lv_bipush (v := 16) hx hb d_Mo_word_20 (by decide) ?_
  refine lv_lshl (v := (sl64 ((af (x1 + (2 : Int32)).toNatClampNeg).toInt64) (16 : Int32))) hx hb d_Mo_word_22 rfl ?_
  refine lv_lor hx hb d_Mo_word_23 ?_
  refine lv_aload_n hx hb d_Mo_word_24 rfl (lv_at hl 0 rfl) ?_
  refine lv_iload_n hx hb d_Mo_word_25 rfl (lv_at hl 1 rfl) ?_
  refine lv_iconst (v := 3) hx hb d_Mo_word_26 (by decide) ?_
  refine lv_iadd hx hb d_Mo_word_27 ?_
  obtain ⟨h_in, hf⟩ := as_some hf
  refine va_iald hx hb hK hP 0 1 rfl rfl h_in d_Mo_word_28 ?_
  refine lv_i2l (v := ((af (x1 + (3 : Int32)).toNatClampNeg).toInt64)) hx hb d_Mo_word_29 rfl ?_
  refine lv_bipush (v := 24) hx hb d_Mo_word_30 (by decide) ?_
  refine lv_lshl (v := (sl64 ((af (x1 + (3 : Int32)).toNatClampNeg).toInt64) (24 : Int32))) hx hb d_Mo_word_32 rfl ?_
  refine lv_lor hx hb d_Mo_word_33 ?_
  cases hf
  exact s_lret hx hb hr hlocks hP hK hD hS d_Mo_word_34
end
noncomputable abbrev f_Mo_word (aL : Nat) (x1 : Int32) (af : Nat → Int32) : Option (Int64) := j_Mo_word_0 aL x1 af
set_option maxRecDepth 100000 in
theorem c_Mo_word (l : Launch) (dC : Nat → ClassId) (dI : Nat → Nat → Nat) (cB cI cJ : ClassId) (a aL : Nat) (af : Nat → Int32) (x1 : Int32) {r_z : Int64} (hf : f_Mo_word aL x1 af = some r_z) : MetL l y_Mo_word ws_Mo_word rm_Mo_word (dC, dI) vwCl [(cB, .byte), (cI, .int), (cJ, .long)] [.ref a, .int x1] (wd_Mo_word a cB cI cJ aL af) r_z (wd_Mo_word a cB cI cJ aL af) 0 0 :=
  s_ofl (bytes := cd_Mo_word) (maxL := 2) (ret := (some .long)) (by decide) rfl (Nat.le_of_ble_eq_true rfl) (fun p e s m below meth c A ls C hK hA hP hD hS hl => k_Mo_word_0 C hK hA x1 af hf hP hD hS (lv_sub hl [0, 1] rfl))

abbrev wd_Mo_sumOf (w wl a wi wo wh wd wm wp wb wc : Nat) (cB cI cJ : ClassId) (aL : Nat) (win : Int32) (won : Int32) (whn : Int32) (wpl : Int32) (wdn : Int32) (wfo : Int32) (wmn : Int32) (wpn : Int32) (wbn : Int32) (wcn : Int32) (wat : Int32) (wnu : Int32) (wlf : Nat → Int64) (af : Nat → Int32) : va_W := [(w, .inr (7, [.ref wi, .ref wo, .ref wh, .int win, .int won, .int whn, .int wpl, .ref wd, .int wdn, .int wfo, .ref wm, .int wmn, .ref wp, .int wpn, .ref wb, .int wbn, .ref wc, .int wcn, .ref wl, .int wat, .int wnu])), (wl, .inl (cJ, 4, .inr (.inl wlf))), (a, .inl (cI, aL, .inl af))]
abbrev rm_Mo_sumOf : Room := { frames := 1, cells := 0, slots := 0, locals := 23 }
section
variable {p : Program} {l : Launch} {e : Env} {s : State} {m : MethodId} {args : Array Value} {below : List Frame} {meth : Method} {c : Code} {dC : Nat → ClassId} {dI : Nat → Nat → Nat} {A : Nat → Prop} {cB cI cJ : ClassId} {H : Heap} {locs : List Loc} {ls : Array Slot} {N : Nat} {w wl a wi wo wh wd wm wp wb wc aL : Nat}
noncomputable def b_Mo_sumOf_266 (aL : Nat) (x3 : Int32) (x4 : Int64) (x6 : Int64) (x8 : Int64) (x12 : Int64) (wlf : Nat → Int64) (af : Nat → Int32)  (kh266 : Int32 → Int64 → Option (Int64 × (Nat → Int64))) (x15 : Int32) (x16 : Int64) : Option (Int64 × (Nat → Int64)) :=
  (if x3 ≤ x15 then bd1 (f_Mo_times (x16 ^^^ (sr64 x16 (15 : Int32))) x6) (fun r317 => bd1 (f_Mo_times (r317 ^^^ (sr64 r317 (13 : Int32))) x8) (fun r332 => (some ((r332 ^^^ (sr64 r332 (16 : Int32))), wlf) : Option (Int64 × (Nat → Int64))))) else as_ (vp_in x15 aL) (bd1 (f_Mo_times ((af x15.toNatClampNeg).toInt64) x12) (fun r281 => bd1 (f_Mo_turned ((x16 + r281) &&& (4294967295 : Int64)) (11 : Int32)) (fun r291 => bd1 (f_Mo_times r291 x4) (fun r296 => (kh266 (x15 + 1) r296))))))
set_option maxHeartbeats 4000000 in
set_option maxRecDepth 100000 in
theorem k_Mo_sumOf_266 {r_z : Int64} {wlf_z : Nat → Int64} (C : Fx p s m args meth c cd_Mo_sumOf 19 R_Mo lw_g (some .long)) (hK : va_K (dC, dI) vwCl [(cB, .byte), (cI, .int), (cJ, .long)] s) (hA : ∀ q, s.heap.size ≤ q → A q) (x3 : Int32) (x4 : Int64) (x6 : Int64) (x8 : Int64) (x12 : Int64) (win : Int32) (won : Int32) (whn : Int32) (wpl : Int32) (wdn : Int32) (wfo : Int32) (wmn : Int32) (wpn : Int32) (wbn : Int32) (wcn : Int32) (wat : Int32) (wnu : Int32) (wlf : Nat → Int64) (af : Nat → Int32)  : ∀ (n : Nat) (x15 : Int32) (x16 : Int64), loop2 (b_Mo_sumOf_266 aL x3 x4 x6 x8 x12 wlf af ) n x15 x16 = some (r_z, wlf_z) → ∀ (H : Heap) (locs : List Loc), va_P (dC, dI) vwCl (wd_Mo_sumOf w wl a wi wo wh wd wm wp wb wc cB cI cJ aL win won whn wpl wdn wfo wmn wpn wbn wcn wat wnu wlf af) H → va_D A (wd_Mo_sumOf w wl a wi wo wh wd wm wp wb wc cB cI cJ aL win won whn wpl wdn wfo wmn wpn wbn wcn wat wnu wlf af) → va_S A s.heap H locs → ∀ (ls : Array Slot), lv_has ls 19 [(1, .ref a), (3, .int x3), (4, .long x4), (6, .long x6), (8, .long x8), (12, .long x12), (15, .int x15), (16, .long x16)] → W p l e rm_Mo_sumOf s m args below meth c H locs 0 0 (MQ below (sQl (dC, dI) vwCl [(cB, .byte), (cI, .int), (cJ, .long)] A r_z (wd_Mo_sumOf w wl a wi wo wh wd wm wp wb wc cB cI cJ aL win won whn wpl wdn wfo wmn wpn wbn wcn wat wnu wlf_z af)) args s 0 0 A) (F0 m 266 ls []) := by
  obtain ⟨hx, hb, hml, hown, hts, hr, hlocks, hZ⟩ := id C
  intro n
  induction n with
  | zero => intro x15 x16 hf; cases hf
  | succ n ih266 =>
    intro x15 x16 hf H locs hP hD hS ls hl
    have hf : b_Mo_sumOf_266 aL x3 x4 x6 x8 x12 wlf af  (loop2 (b_Mo_sumOf_266 aL x3 x4 x6 x8 x12 wlf af ) n) x15 x16 = some (r_z, wlf_z) := hf
    generalize loop2 (b_Mo_sumOf_266 aL x3 x4 x6 x8 x12 wlf af ) n = kh266 at hf ih266
    unfold b_Mo_sumOf_266 at hf
    refine lv_iload hx hb d_Mo_sumOf_266 (lv_at hl 6 rfl) ?_
    refine lv_iload_n hx hb d_Mo_sumOf_268 rfl (lv_at hl 1 rfl) ?_
    refine lv_icmp_ge (tgt := 307) hx hb d_Mo_sumOf_269 (by decide) (fun c_269 => ?_) (fun c_269 => ?_)
    · have hf := br_pos c_269 hf
      refine lv_lload hx hb d_Mo_sumOf_307 (lv_at hl 7 rfl) ?_
      refine lv_lload hx hb d_Mo_sumOf_309 (lv_at hl 7 rfl) ?_
      refine lv_bipush (v := 15) hx hb d_Mo_sumOf_311 (by decide) ?_
      refine lv_lshr (v := (sr64 x16 (15 : Int32))) hx hb d_Mo_sumOf_313 rfl ?_
      refine lv_lxor hx hb d_Mo_sumOf_314 ?_
      refine lv_lload hx hb d_Mo_sumOf_315 (lv_at hl 3 rfl) ?_
      obtain ⟨r317, hc317, hf⟩ := bd1_some hf
      refine s_Sl (As := [.long (x16 ^^^ (sr64 x16 (15 : Int32))), .long x6]) (rest := []) (wr := [(w, .inr (7, [.ref wi, .ref wo, .ref wh, .int win, .int won, .int whn, .int wpl, .ref wd, .int wdn, .int wfo, .ref wm, .int wmn, .ref wp, .int wpn, .ref wb, .int wbn, .ref wc, .int wcn, .ref wl, .int wat, .int wnu])), (wl, .inl (cJ, 4, .inr (.inl wlf))), (a, .inl (cI, aL, .inl af))]) (ws' := wd_Mo_sumOf w wl a wi wo wh wd wm wp wb wc cB cI cJ aL win won whn wpl wdn wfo wmn wpn wbn wcn wat wnu wlf af) C.call (c_Mo_times l dC dI cB cI cJ    (x16 ^^^ (sr64 x16 (15 : Int32))) x6 hc317) (va_cwS 2 hts (gd_S w_431 w_432 w_365 w_433) rfl rfl rfl hd_Mo_times ⟨Nat.le_of_ble_eq_true rfl, Nat.le_of_ble_eq_true rfl⟩) rfl hl.1 rfl (Nat.le_of_ble_eq_true rfl) d_Mo_sumOf_317 ⟨Nat.le_of_ble_eq_true rfl, Nat.le_of_ble_eq_true rfl⟩ hZ hK hP hD hS hA [] [0, 1, 2] [0, 1, 2] rfl rfl rfl rfl (by decide) rfl rfl (fun H locs hP hD hS => ?_)
      refine lv_lstore (lv' := [(16, .long r317), (1, .ref a), (3, .int x3), (4, .long x4), (6, .long x6), (8, .long x8), (12, .long x12), (15, .int x15)]) hx hb d_Mo_sumOf_320 hl (by decide) rfl (fun ls hl => ?_)
      refine lv_lload hx hb d_Mo_sumOf_322 (lv_at hl 0 rfl) ?_
      refine lv_lload hx hb d_Mo_sumOf_324 (lv_at hl 0 rfl) ?_
      refine lv_bipush (v := 13) hx hb d_Mo_sumOf_326 (by decide) ?_
      refine lv_lshr (v := (sr64 r317 (13 : Int32))) hx hb d_Mo_sumOf_328 rfl ?_
      refine lv_lxor hx hb d_Mo_sumOf_329 ?_
      refine lv_lload hx hb d_Mo_sumOf_330 (lv_at hl 5 rfl) ?_
      obtain ⟨r332, hc332, hf⟩ := bd1_some hf
      refine s_Sl (As := [.long (r317 ^^^ (sr64 r317 (13 : Int32))), .long x8]) (rest := []) (wr := [(w, .inr (7, [.ref wi, .ref wo, .ref wh, .int win, .int won, .int whn, .int wpl, .ref wd, .int wdn, .int wfo, .ref wm, .int wmn, .ref wp, .int wpn, .ref wb, .int wbn, .ref wc, .int wcn, .ref wl, .int wat, .int wnu])), (wl, .inl (cJ, 4, .inr (.inl wlf))), (a, .inl (cI, aL, .inl af))]) (ws' := wd_Mo_sumOf w wl a wi wo wh wd wm wp wb wc cB cI cJ aL win won whn wpl wdn wfo wmn wpn wbn wcn wat wnu wlf af) C.call (c_Mo_times l dC dI cB cI cJ    (r317 ^^^ (sr64 r317 (13 : Int32))) x8 hc332) (va_cwS 2 hts (gd_S w_431 w_432 w_365 w_433) rfl rfl rfl hd_Mo_times ⟨Nat.le_of_ble_eq_true rfl, Nat.le_of_ble_eq_true rfl⟩) rfl hl.1 rfl (Nat.le_of_ble_eq_true rfl) d_Mo_sumOf_332 ⟨Nat.le_of_ble_eq_true rfl, Nat.le_of_ble_eq_true rfl⟩ hZ hK hP hD hS hA [] [0, 1, 2] [0, 1, 2] rfl rfl rfl rfl (by decide) rfl rfl (fun H locs hP hD hS => ?_)
      refine lv_lstore (lv' := [(16, .long r332), (1, .ref a), (3, .int x3), (4, .long x4), (6, .long x6), (8, .long x8), (12, .long x12), (15, .int x15)]) hx hb d_Mo_sumOf_335 hl (by decide) rfl (fun ls hl => ?_)
      refine lv_lload hx hb d_Mo_sumOf_337 (lv_at hl 0 rfl) ?_
      refine lv_lload hx hb d_Mo_sumOf_339 (lv_at hl 0 rfl) ?_
      refine lv_bipush (v := 16) hx hb d_Mo_sumOf_341 (by decide) ?_
      refine lv_lshr (v := (sr64 r332 (16 : Int32))) hx hb d_Mo_sumOf_343 rfl ?_
      refine lv_lxor hx hb d_Mo_sumOf_344 ?_
      cases hf
      exact s_lret hx hb hr hlocks hP hK hD hS d_Mo_sumOf_345
    · have hf := br_neg c_269 hf
      refine lv_lload hx hb d_Mo_sumOf_272 (lv_at hl 7 rfl) ?_
      refine lv_aload_n hx hb d_Mo_sumOf_274 rfl (lv_at hl 0 rfl) ?_
      refine lv_iload hx hb d_Mo_sumOf_275 (lv_at hl 6 rfl) ?_
      obtain ⟨h_in, hf⟩ := as_some hf
      refine va_iald hx hb hK hP 2 1 rfl rfl h_in d_Mo_sumOf_277 ?_
      refine lv_i2l (v := ((af x15.toNatClampNeg).toInt64)) hx hb d_Mo_sumOf_278 rfl ?_
      refine lv_lload hx hb d_Mo_sumOf_279 (lv_at hl 5 rfl) ?_
      obtain ⟨r281, hc281, hf⟩ := bd1_some hf
      refine s_Sl (As := [.long ((af x15.toNatClampNeg).toInt64), .long x12]) (rest := [.long x16]) (wr := [(w, .inr (7, [.ref wi, .ref wo, .ref wh, .int win, .int won, .int whn, .int wpl, .ref wd, .int wdn, .int wfo, .ref wm, .int wmn, .ref wp, .int wpn, .ref wb, .int wbn, .ref wc, .int wcn, .ref wl, .int wat, .int wnu])), (wl, .inl (cJ, 4, .inr (.inl wlf))), (a, .inl (cI, aL, .inl af))]) (ws' := wd_Mo_sumOf w wl a wi wo wh wd wm wp wb wc cB cI cJ aL win won whn wpl wdn wfo wmn wpn wbn wcn wat wnu wlf af) C.call (c_Mo_times l dC dI cB cI cJ    ((af x15.toNatClampNeg).toInt64) x12 hc281) (va_cwS 2 hts (gd_S w_431 w_432 w_365 w_433) rfl rfl rfl hd_Mo_times ⟨Nat.le_of_ble_eq_true rfl, Nat.le_of_ble_eq_true rfl⟩) rfl hl.1 rfl (Nat.le_of_ble_eq_true rfl) d_Mo_sumOf_281 ⟨Nat.le_of_ble_eq_true rfl, Nat.le_of_ble_eq_true rfl⟩ hZ hK hP hD hS hA [] [0, 1, 2] [0, 1, 2] rfl rfl rfl rfl (by decide) rfl rfl (fun H locs hP hD hS => ?_)
      refine lv_ladd hx hb d_Mo_sumOf_284 ?_
      refine lv_ldc2 (v := 4294967295) hx hb hown (hts _ w_425) d_Mo_sumOf_285 ?_
      refine lv_land hx hb d_Mo_sumOf_288 ?_
      refine lv_bipush (v := 11) hx hb d_Mo_sumOf_289 (by decide) ?_
      obtain ⟨r291, hc291, hf⟩ := bd1_some hf
      refine s_Sl (As := [.long ((x16 + r281) &&& (4294967295 : Int64)), .int (11 : Int32)]) (rest := []) (wr := [(w, .inr (7, [.ref wi, .ref wo, .ref wh, .int win, .int won, .int whn, .int wpl, .ref wd, .int wdn, .int wfo, .ref wm, .int wmn, .ref wp, .int wpn, .ref wb, .int wbn, .ref wc, .int wcn, .ref wl, .int wat, .int wnu])), (wl, .inl (cJ, 4, .inr (.inl wlf))), (a, .inl (cI, aL, .inl af))]) (ws' := wd_Mo_sumOf w wl a wi wo wh wd wm wp wb wc cB cI cJ aL win won whn wpl wdn wfo wmn wpn wbn wcn wat wnu wlf af) C.call (c_Mo_turned l dC dI cB cI cJ    ((x16 + r281) &&& (4294967295 : Int64)) (11 : Int32) hc291) (va_cwS 2 hts (gd_S w_434 w_435 w_365 w_436) rfl rfl rfl hd_Mo_turned ⟨Nat.le_of_ble_eq_true rfl, Nat.le_of_ble_eq_true rfl⟩) rfl hl.1 rfl (Nat.le_of_ble_eq_true rfl) d_Mo_sumOf_291 ⟨Nat.le_of_ble_eq_true rfl, Nat.le_of_ble_eq_true rfl⟩ hZ hK hP hD hS hA [] [0, 1, 2] [0, 1, 2] rfl rfl rfl rfl (by decide) rfl rfl (fun H locs hP hD hS => ?_)
      refine lv_lload hx hb d_Mo_sumOf_294 (lv_at hl 2 rfl) ?_
      obtain ⟨r296, hc296, hf⟩ := bd1_some hf
      refine s_Sl (As := [.long r291, .long x4]) (rest := []) (wr := [(w, .inr (7, [.ref wi, .ref wo, .ref wh, .int win, .int won, .int whn, .int wpl, .ref wd, .int wdn, .int wfo, .ref wm, .int wmn, .ref wp, .int wpn, .ref wb, .int wbn, .ref wc, .int wcn, .ref wl, .int wat, .int wnu])), (wl, .inl (cJ, 4, .inr (.inl wlf))), (a, .inl (cI, aL, .inl af))]) (ws' := wd_Mo_sumOf w wl a wi wo wh wd wm wp wb wc cB cI cJ aL win won whn wpl wdn wfo wmn wpn wbn wcn wat wnu wlf af) C.call (c_Mo_times l dC dI cB cI cJ    r291 x4 hc296) (va_cwS 2 hts (gd_S w_431 w_432 w_365 w_433) rfl rfl rfl hd_Mo_times ⟨Nat.le_of_ble_eq_true rfl, Nat.le_of_ble_eq_true rfl⟩) rfl hl.1 rfl (Nat.le_of_ble_eq_true rfl) d_Mo_sumOf_296 ⟨Nat.le_of_ble_eq_true rfl, Nat.le_of_ble_eq_true rfl⟩ hZ hK hP hD hS hA [] [0, 1, 2] [0, 1, 2] rfl rfl rfl rfl (by decide) rfl rfl (fun H locs hP hD hS => ?_)
      refine lv_lstore (lv' := [(16, .long r296), (1, .ref a), (3, .int x3), (4, .long x4), (6, .long x6), (8, .long x8), (12, .long x12), (15, .int x15)]) hx hb d_Mo_sumOf_299 hl (by decide) rfl (fun ls hl => ?_)
      refine lv_iinc (v := (x15 + 1)) (lv' := [(15, .int (x15 + 1)), (16, .long r296), (1, .ref a), (3, .int x3), (4, .long x4), (6, .long x6), (8, .long x8), (12, .long x12)]) hx hb d_Mo_sumOf_301 hl (k := 7) rfl (congrArg (fun z => x15 + z) (by decide)) (by decide) rfl (fun ls hl => ?_)
      refine lv_goto (tgt := 266) hx hb d_Mo_sumOf_304 (by decide) ?_
      exact ih266 (x15 + 1) r296 hf _ _ hP hD hS _ (lv_sub hl [2, 3, 4, 5, 6, 7, 0, 1] rfl)
noncomputable def b_Mo_sumOf_222 (N : Nat) (aL : Nat) (x3 : Int32) (x4 : Int64) (x6 : Int64) (x8 : Int64) (x10 : Int64) (x12 : Int64) (wlf : Nat → Int64) (af : Nat → Int32)  (kh222 : Int32 → Int64 → Option (Int64 × (Nat → Int64))) (x15 : Int32) (x16 : Int64) : Option (Int64 × (Nat → Int64)) :=
  (if (x3 - x15) < (4 : Int32) then (loop2 (b_Mo_sumOf_266 aL x3 x4 x6 x8 x12 wlf af ) N x15 x16) else bd1 (f_Mo_word aL x15 af) (fun r235 => bd1 (f_Mo_times r235 x8) (fun r240 => bd1 (f_Mo_turned ((x16 + r240) &&& (4294967295 : Int64)) (17 : Int32)) (fun r250 => bd1 (f_Mo_times r250 x10) (fun r255 => (kh222 (x15 + 4) r255))))))
set_option maxHeartbeats 4000000 in
set_option maxRecDepth 100000 in
theorem k_Mo_sumOf_222 {r_z : Int64} {wlf_z : Nat → Int64} (C : Fx p s m args meth c cd_Mo_sumOf 19 R_Mo lw_g (some .long)) (hK : va_K (dC, dI) vwCl [(cB, .byte), (cI, .int), (cJ, .long)] s) (hA : ∀ q, s.heap.size ≤ q → A q) (x3 : Int32) (x4 : Int64) (x6 : Int64) (x8 : Int64) (x10 : Int64) (x12 : Int64) (win : Int32) (won : Int32) (whn : Int32) (wpl : Int32) (wdn : Int32) (wfo : Int32) (wmn : Int32) (wpn : Int32) (wbn : Int32) (wcn : Int32) (wat : Int32) (wnu : Int32) (wlf : Nat → Int64) (af : Nat → Int32)  : ∀ (n : Nat) (x15 : Int32) (x16 : Int64), loop2 (b_Mo_sumOf_222 N aL x3 x4 x6 x8 x10 x12 wlf af ) n x15 x16 = some (r_z, wlf_z) → ∀ (H : Heap) (locs : List Loc), va_P (dC, dI) vwCl (wd_Mo_sumOf w wl a wi wo wh wd wm wp wb wc cB cI cJ aL win won whn wpl wdn wfo wmn wpn wbn wcn wat wnu wlf af) H → va_D A (wd_Mo_sumOf w wl a wi wo wh wd wm wp wb wc cB cI cJ aL win won whn wpl wdn wfo wmn wpn wbn wcn wat wnu wlf af) → va_S A s.heap H locs → ∀ (ls : Array Slot), lv_has ls 19 [(1, .ref a), (3, .int x3), (4, .long x4), (6, .long x6), (8, .long x8), (10, .long x10), (12, .long x12), (15, .int x15), (16, .long x16)] → W p l e rm_Mo_sumOf s m args below meth c H locs 0 0 (MQ below (sQl (dC, dI) vwCl [(cB, .byte), (cI, .int), (cJ, .long)] A r_z (wd_Mo_sumOf w wl a wi wo wh wd wm wp wb wc cB cI cJ aL win won whn wpl wdn wfo wmn wpn wbn wcn wat wnu wlf_z af)) args s 0 0 A) (F0 m 222 ls []) := by
  obtain ⟨hx, hb, hml, hown, hts, hr, hlocks, hZ⟩ := id C
  intro n
  induction n with
  | zero => intro x15 x16 hf; cases hf
  | succ n ih222 =>
    intro x15 x16 hf H locs hP hD hS ls hl
    have hf : b_Mo_sumOf_222 N aL x3 x4 x6 x8 x10 x12 wlf af  (loop2 (b_Mo_sumOf_222 N aL x3 x4 x6 x8 x10 x12 wlf af ) n) x15 x16 = some (r_z, wlf_z) := hf
    generalize loop2 (b_Mo_sumOf_222 N aL x3 x4 x6 x8 x10 x12 wlf af ) n = kh222 at hf ih222
    unfold b_Mo_sumOf_222 at hf
    refine lv_iload_n hx hb d_Mo_sumOf_222 rfl (lv_at hl 1 rfl) ?_
    refine lv_iload hx hb d_Mo_sumOf_223 (lv_at hl 7 rfl) ?_
    refine lv_isub hx hb d_Mo_sumOf_225 ?_
    refine lv_iconst (v := 4) hx hb d_Mo_sumOf_226 (by decide) ?_
    refine lv_icmp_lt (tgt := 266) hx hb d_Mo_sumOf_227 (by decide) (fun c_227 => ?_) (fun c_227 => ?_)
    · have hf := br_pos c_227 hf
      exact k_Mo_sumOf_266 C hK hA x3 x4 x6 x8 x12 win won whn wpl wdn wfo wmn wpn wbn wcn wat wnu wlf af  N x15 x16 hf _ _ hP hD hS _ (lv_sub hl [0, 1, 2, 3, 4, 6, 7, 8] rfl)
    · have hf := br_neg c_227 hf
      refine lv_lload hx hb d_Mo_sumOf_230 (lv_at hl 8 rfl) ?_
      refine lv_aload_n hx hb d_Mo_sumOf_232 rfl (lv_at hl 0 rfl) ?_
      refine lv_iload hx hb d_Mo_sumOf_233 (lv_at hl 7 rfl) ?_
      obtain ⟨r235, hc235, hf⟩ := bd1_some hf
      refine s_Sl (As := [.ref a, .int x15]) (rest := [.long x16]) (wr := [(w, .inr (7, [.ref wi, .ref wo, .ref wh, .int win, .int won, .int whn, .int wpl, .ref wd, .int wdn, .int wfo, .ref wm, .int wmn, .ref wp, .int wpn, .ref wb, .int wbn, .ref wc, .int wcn, .ref wl, .int wat, .int wnu])), (wl, .inl (cJ, 4, .inr (.inl wlf)))]) (ws' := wd_Mo_sumOf w wl a wi wo wh wd wm wp wb wc cB cI cJ aL win won whn wpl wdn wfo wmn wpn wbn wcn wat wnu wlf af) C.call (c_Mo_word l dC dI cB cI cJ a aL af x15 hc235) (va_cwS 2 hts (gd_S w_437 w_438 w_365 w_439) rfl rfl rfl hd_Mo_word ⟨Nat.le_of_ble_eq_true rfl, Nat.le_of_ble_eq_true rfl⟩) rfl hl.1 rfl (Nat.le_of_ble_eq_true rfl) d_Mo_sumOf_235 ⟨Nat.le_of_ble_eq_true rfl, Nat.le_of_ble_eq_true rfl⟩ hZ hK hP hD hS hA [2] [0, 1] [0, 1, 2] rfl rfl rfl rfl (by decide) rfl rfl (fun H locs hP hD hS => ?_)
      refine lv_lload hx hb d_Mo_sumOf_238 (lv_at hl 4 rfl) ?_
      obtain ⟨r240, hc240, hf⟩ := bd1_some hf
      refine s_Sl (As := [.long r235, .long x8]) (rest := [.long x16]) (wr := [(w, .inr (7, [.ref wi, .ref wo, .ref wh, .int win, .int won, .int whn, .int wpl, .ref wd, .int wdn, .int wfo, .ref wm, .int wmn, .ref wp, .int wpn, .ref wb, .int wbn, .ref wc, .int wcn, .ref wl, .int wat, .int wnu])), (wl, .inl (cJ, 4, .inr (.inl wlf))), (a, .inl (cI, aL, .inl af))]) (ws' := wd_Mo_sumOf w wl a wi wo wh wd wm wp wb wc cB cI cJ aL win won whn wpl wdn wfo wmn wpn wbn wcn wat wnu wlf af) C.call (c_Mo_times l dC dI cB cI cJ    r235 x8 hc240) (va_cwS 2 hts (gd_S w_431 w_432 w_365 w_433) rfl rfl rfl hd_Mo_times ⟨Nat.le_of_ble_eq_true rfl, Nat.le_of_ble_eq_true rfl⟩) rfl hl.1 rfl (Nat.le_of_ble_eq_true rfl) d_Mo_sumOf_240 ⟨Nat.le_of_ble_eq_true rfl, Nat.le_of_ble_eq_true rfl⟩ hZ hK hP hD hS hA [] [0, 1, 2] [0, 1, 2] rfl rfl rfl rfl (by decide) rfl rfl (fun H locs hP hD hS => ?_)
      refine lv_ladd hx hb d_Mo_sumOf_243 ?_
      refine lv_ldc2 (v := 4294967295) hx hb hown (hts _ w_425) d_Mo_sumOf_244 ?_
      refine lv_land hx hb d_Mo_sumOf_247 ?_
      refine lv_bipush (v := 17) hx hb d_Mo_sumOf_248 (by decide) ?_
      obtain ⟨r250, hc250, hf⟩ := bd1_some hf
      refine s_Sl (As := [.long ((x16 + r240) &&& (4294967295 : Int64)), .int (17 : Int32)]) (rest := []) (wr := [(w, .inr (7, [.ref wi, .ref wo, .ref wh, .int win, .int won, .int whn, .int wpl, .ref wd, .int wdn, .int wfo, .ref wm, .int wmn, .ref wp, .int wpn, .ref wb, .int wbn, .ref wc, .int wcn, .ref wl, .int wat, .int wnu])), (wl, .inl (cJ, 4, .inr (.inl wlf))), (a, .inl (cI, aL, .inl af))]) (ws' := wd_Mo_sumOf w wl a wi wo wh wd wm wp wb wc cB cI cJ aL win won whn wpl wdn wfo wmn wpn wbn wcn wat wnu wlf af) C.call (c_Mo_turned l dC dI cB cI cJ    ((x16 + r240) &&& (4294967295 : Int64)) (17 : Int32) hc250) (va_cwS 2 hts (gd_S w_434 w_435 w_365 w_436) rfl rfl rfl hd_Mo_turned ⟨Nat.le_of_ble_eq_true rfl, Nat.le_of_ble_eq_true rfl⟩) rfl hl.1 rfl (Nat.le_of_ble_eq_true rfl) d_Mo_sumOf_250 ⟨Nat.le_of_ble_eq_true rfl, Nat.le_of_ble_eq_true rfl⟩ hZ hK hP hD hS hA [] [0, 1, 2] [0, 1, 2] rfl rfl rfl rfl (by decide) rfl rfl (fun H locs hP hD hS => ?_)
      refine lv_lload hx hb d_Mo_sumOf_253 (lv_at hl 5 rfl) ?_
      obtain ⟨r255, hc255, hf⟩ := bd1_some hf
      refine s_Sl (As := [.long r250, .long x10]) (rest := []) (wr := [(w, .inr (7, [.ref wi, .ref wo, .ref wh, .int win, .int won, .int whn, .int wpl, .ref wd, .int wdn, .int wfo, .ref wm, .int wmn, .ref wp, .int wpn, .ref wb, .int wbn, .ref wc, .int wcn, .ref wl, .int wat, .int wnu])), (wl, .inl (cJ, 4, .inr (.inl wlf))), (a, .inl (cI, aL, .inl af))]) (ws' := wd_Mo_sumOf w wl a wi wo wh wd wm wp wb wc cB cI cJ aL win won whn wpl wdn wfo wmn wpn wbn wcn wat wnu wlf af) C.call (c_Mo_times l dC dI cB cI cJ    r250 x10 hc255) (va_cwS 2 hts (gd_S w_431 w_432 w_365 w_433) rfl rfl rfl hd_Mo_times ⟨Nat.le_of_ble_eq_true rfl, Nat.le_of_ble_eq_true rfl⟩) rfl hl.1 rfl (Nat.le_of_ble_eq_true rfl) d_Mo_sumOf_255 ⟨Nat.le_of_ble_eq_true rfl, Nat.le_of_ble_eq_true rfl⟩ hZ hK hP hD hS hA [] [0, 1, 2] [0, 1, 2] rfl rfl rfl rfl (by decide) rfl rfl (fun H locs hP hD hS => ?_)
      refine lv_lstore (lv' := [(16, .long r255), (1, .ref a), (3, .int x3), (4, .long x4), (6, .long x6), (8, .long x8), (10, .long x10), (12, .long x12), (15, .int x15)]) hx hb d_Mo_sumOf_258 hl (by decide) rfl (fun ls hl => ?_)
      refine lv_iinc (v := (x15 + 4)) (lv' := [(15, .int (x15 + 4)), (16, .long r255), (1, .ref a), (3, .int x3), (4, .long x4), (6, .long x6), (8, .long x8), (10, .long x10), (12, .long x12)]) hx hb d_Mo_sumOf_260 hl (k := 8) rfl (congrArg (fun z => x15 + z) (by decide)) (by decide) rfl (fun ls hl => ?_)
      refine lv_goto (tgt := 222) hx hb d_Mo_sumOf_263 (by decide) ?_
      exact ih222 (x15 + 4) r255 hf _ _ hP hD hS _ (lv_sub hl [2, 3, 4, 5, 6, 7, 8, 0, 1] rfl)
noncomputable def j_Mo_sumOf_210 (N : Nat) (aL : Nat) (x3 : Int32) (x4 : Int64) (x6 : Int64) (x8 : Int64) (x10 : Int64) (x12 : Int64) (x14 : Int32) (x15 : Int32) (x16 : Int64) (wlf : Nat → Int64) (af : Nat → Int32)  : Option (Int64 × (Nat → Int64)) :=
  (loop2 (b_Mo_sumOf_222 N aL x3 x4 x6 x8 x10 x12 wlf af ) N x15 ((x16 + (x14.toInt64)) &&& (4294967295 : Int64)))
set_option maxHeartbeats 4000000 in
set_option maxRecDepth 100000 in
theorem k_Mo_sumOf_210 {r_z : Int64} {wlf_z : Nat → Int64} (C : Fx p s m args meth c cd_Mo_sumOf 19 R_Mo lw_g (some .long)) (hK : va_K (dC, dI) vwCl [(cB, .byte), (cI, .int), (cJ, .long)] s) (hA : ∀ q, s.heap.size ≤ q → A q) (x3 : Int32) (x4 : Int64) (x6 : Int64) (x8 : Int64) (x10 : Int64) (x12 : Int64) (x14 : Int32) (x15 : Int32) (x16 : Int64) (win : Int32) (won : Int32) (whn : Int32) (wpl : Int32) (wdn : Int32) (wfo : Int32) (wmn : Int32) (wpn : Int32) (wbn : Int32) (wcn : Int32) (wat : Int32) (wnu : Int32) (wlf : Nat → Int64) (af : Nat → Int32)  (hf : j_Mo_sumOf_210 N aL x3 x4 x6 x8 x10 x12 x14 x15 x16 wlf af  = some (r_z, wlf_z)) (hP : va_P (dC, dI) vwCl (wd_Mo_sumOf w wl a wi wo wh wd wm wp wb wc cB cI cJ aL win won whn wpl wdn wfo wmn wpn wbn wcn wat wnu wlf af) H) (hD : va_D A (wd_Mo_sumOf w wl a wi wo wh wd wm wp wb wc cB cI cJ aL win won whn wpl wdn wfo wmn wpn wbn wcn wat wnu wlf af)) (hS : va_S A s.heap H locs) (hl : lv_has ls 19 [(1, .ref a), (3, .int x3), (4, .long x4), (6, .long x6), (8, .long x8), (10, .long x10), (12, .long x12), (14, .int x14), (15, .int x15), (16, .long x16)]) : W p l e rm_Mo_sumOf s m args below meth c H locs 0 0 (MQ below (sQl (dC, dI) vwCl [(cB, .byte), (cI, .int), (cJ, .long)] A r_z (wd_Mo_sumOf w wl a wi wo wh wd wm wp wb wc cB cI cJ aL win won whn wpl wdn wfo wmn wpn wbn wcn wat wnu wlf_z af)) args s 0 0 A) (F0 m 210 ls []) := by
  obtain ⟨hx, hb, hml, hown, hts, hr, hlocks, hZ⟩ := id C
  unfold j_Mo_sumOf_210 at hf
  refine lv_lload hx hb d_Mo_sumOf_210 (lv_at hl 9 rfl) ?_
  refine lv_iload hx hb d_Mo_sumOf_212 (lv_at hl 7 rfl) ?_
  refine lv_i2l (v := (x14.toInt64)) hx hb d_Mo_sumOf_214 rfl ?_
  refine lv_ladd hx hb d_Mo_sumOf_215 ?_
  refine lv_ldc2 (v := 4294967295) hx hb hown (hts _ w_425) d_Mo_sumOf_216 ?_
  refine lv_land hx hb d_Mo_sumOf_219 ?_
  refine lv_lstore (lv' := [(16, .long ((x16 + (x14.toInt64)) &&& (4294967295 : Int64))), (1, .ref a), (3, .int x3), (4, .long x4), (6, .long x6), (8, .long x8), (10, .long x10), (12, .long x12), (14, .int x14), (15, .int x15)]) hx hb d_Mo_sumOf_220 hl (by decide) rfl (fun ls hl => ?_)
  exact k_Mo_sumOf_222 C hK hA x3 x4 x6 x8 x10 x12 win won whn wpl wdn wfo wmn wpn wbn wcn wat wnu wlf af  N x15 ((x16 + (x14.toInt64)) &&& (4294967295 : Int64)) hf _ _ hP hD hS _ (lv_sub hl [1, 2, 3, 4, 5, 6, 7, 9, 0] rfl)
noncomputable def b_Mo_sumOf_100 (aL : Nat) (x4 : Int64) (x6 : Int64) (af : Nat → Int32) (kh88 : Int32 → (Nat → Int64) → Option (Int64 × (Nat → Int64))) (kh100 : Int32 → Int32 → (Nat → Int64) → Option (Int64 × (Nat → Int64))) (x15 : Int32) (x18 : Int32) (wlf : Nat → Int64) : Option (Int64 × (Nat → Int64)) :=
  (if (4 : Int32) ≤ x18 then (kh88 x15 wlf) else as_ (vp_in x18 4) (bd1 (f_Mo_word aL x15 af) (fun r122 => bd1 (f_Mo_times r122 x6) (fun r127 => bd1 (f_Mo_turned (((wlf x18.toNatClampNeg) + r127) &&& (4294967295 : Int64)) (13 : Int32)) (fun r137 => bd1 (f_Mo_times r137 x4) (fun r142 => as_ (vp_in x18 4) ((kh100 (x15 + 4) (x18 + 1) (vp_updL wlf x18.toNatClampNeg r142)))))))))
set_option maxHeartbeats 4000000 in
set_option maxRecDepth 100000 in
theorem k_Mo_sumOf_100 {r_z : Int64} {wlf_z : Nat → Int64} (C : Fx p s m args meth c cd_Mo_sumOf 19 R_Mo lw_g (some .long)) (hK : va_K (dC, dI) vwCl [(cB, .byte), (cI, .int), (cJ, .long)] s) (hA : ∀ q, s.heap.size ≤ q → A q) (x3 : Int32) (x4 : Int64) (x6 : Int64) (x8 : Int64) (x10 : Int64) (x12 : Int64) (x14 : Int32) (win : Int32) (won : Int32) (whn : Int32) (wpl : Int32) (wdn : Int32) (wfo : Int32) (wmn : Int32) (wpn : Int32) (wbn : Int32) (wcn : Int32) (wat : Int32) (wnu : Int32) (af : Nat → Int32) (kh88 : Int32 → (Nat → Int64) → Option (Int64 × (Nat → Int64))) (ih88 : ∀ (x15 : Int32) (wlf : Nat → Int64), kh88 x15 wlf = some (r_z, wlf_z) → ∀ (H : Heap) (locs : List Loc), va_P (dC, dI) vwCl (wd_Mo_sumOf w wl a wi wo wh wd wm wp wb wc cB cI cJ aL win won whn wpl wdn wfo wmn wpn wbn wcn wat wnu wlf af) H → va_D A (wd_Mo_sumOf w wl a wi wo wh wd wm wp wb wc cB cI cJ aL win won whn wpl wdn wfo wmn wpn wbn wcn wat wnu wlf af) → va_S A s.heap H locs → ∀ (ls : Array Slot), lv_has ls 19 [(0, .ref w), (1, .ref a), (3, .int x3), (4, .long x4), (6, .long x6), (8, .long x8), (10, .long x10), (12, .long x12), (14, .int x14), (15, .int x15)] → W p l e rm_Mo_sumOf s m args below meth c H locs 0 0 (MQ below (sQl (dC, dI) vwCl [(cB, .byte), (cI, .int), (cJ, .long)] A r_z (wd_Mo_sumOf w wl a wi wo wh wd wm wp wb wc cB cI cJ aL win won whn wpl wdn wfo wmn wpn wbn wcn wat wnu wlf_z af)) args s 0 0 A) (F0 m 88 ls [])) : ∀ (n : Nat) (x15 : Int32) (x18 : Int32) (wlf : Nat → Int64), loop3 (b_Mo_sumOf_100 aL x4 x6 af kh88) n x15 x18 wlf = some (r_z, wlf_z) → ∀ (H : Heap) (locs : List Loc), va_P (dC, dI) vwCl (wd_Mo_sumOf w wl a wi wo wh wd wm wp wb wc cB cI cJ aL win won whn wpl wdn wfo wmn wpn wbn wcn wat wnu wlf af) H → va_D A (wd_Mo_sumOf w wl a wi wo wh wd wm wp wb wc cB cI cJ aL win won whn wpl wdn wfo wmn wpn wbn wcn wat wnu wlf af) → va_S A s.heap H locs → ∀ (ls : Array Slot), lv_has ls 19 [(0, .ref w), (1, .ref a), (3, .int x3), (4, .long x4), (6, .long x6), (8, .long x8), (10, .long x10), (12, .long x12), (14, .int x14), (15, .int x15), (18, .int x18)] → W p l e rm_Mo_sumOf s m args below meth c H locs 0 0 (MQ below (sQl (dC, dI) vwCl [(cB, .byte), (cI, .int), (cJ, .long)] A r_z (wd_Mo_sumOf w wl a wi wo wh wd wm wp wb wc cB cI cJ aL win won whn wpl wdn wfo wmn wpn wbn wcn wat wnu wlf_z af)) args s 0 0 A) (F0 m 100 ls []) := by
  obtain ⟨hx, hb, hml, hown, hts, hr, hlocks, hZ⟩ := id C
  intro n
  induction n with
  | zero => intro x15 x18 wlf hf; cases hf
  | succ n ih100 =>
    intro x15 x18 wlf hf H locs hP hD hS ls hl
    have hf : b_Mo_sumOf_100 aL x4 x6 af kh88 (loop3 (b_Mo_sumOf_100 aL x4 x6 af kh88) n) x15 x18 wlf = some (r_z, wlf_z) := hf
    generalize loop3 (b_Mo_sumOf_100 aL x4 x6 af kh88) n = kh100 at hf ih100
    unfold b_Mo_sumOf_100 at hf
    refine lv_iload hx hb d_Mo_sumOf_100 (lv_at hl 10 rfl) ?_
    refine lv_iconst (v := 4) hx hb d_Mo_sumOf_102 (by decide) ?_
    refine lv_icmp_ge (tgt := 155) hx hb d_Mo_sumOf_103 (by decide) (fun c_103 => ?_) (fun c_103 => ?_)
    · have hf := br_pos c_103 hf
      refine lv_goto (tgt := 88) hx hb d_Mo_sumOf_155 (by decide) ?_
      exact ih88 x15 wlf hf _ _ hP hD hS _ (lv_sub hl [0, 1, 2, 3, 4, 5, 6, 7, 8, 9] rfl)
    · have hf := br_neg c_103 hf
      refine lv_aload_n hx hb d_Mo_sumOf_106 rfl (lv_at hl 0 rfl) ?_
      refine va_get (D := (dC, dI)) (ci := 7) (v := .ref wl) (C := R_Mo) (T := T_Mo) (N := 21) hx hb hts w_359 hown hK hP 0 rfl rfl 18 (by decide) (hts _ w_440) (fun _ h9 => h9) rfl d_Mo_sumOf_107 ?_
      refine lv_iload hx hb d_Mo_sumOf_110 (lv_at hl 10 rfl) ?_
      refine lv_aload_n hx hb d_Mo_sumOf_112 rfl (lv_at hl 0 rfl) ?_
      refine va_get (D := (dC, dI)) (ci := 7) (v := .ref wl) (C := R_Mo) (T := T_Mo) (N := 21) hx hb hts w_359 hown hK hP 0 rfl rfl 18 (by decide) (hts _ w_440) (fun _ h9 => h9) rfl d_Mo_sumOf_113 ?_
      refine lv_iload hx hb d_Mo_sumOf_116 (lv_at hl 10 rfl) ?_
      obtain ⟨h_in, hf⟩ := as_some hf
      refine va_lald hx hb hK hP 1 2 rfl rfl h_in d_Mo_sumOf_118 ?_
      refine lv_aload_n hx hb d_Mo_sumOf_119 rfl (lv_at hl 1 rfl) ?_
      refine lv_iload hx hb d_Mo_sumOf_120 (lv_at hl 9 rfl) ?_
      obtain ⟨r122, hc122, hf⟩ := bd1_some hf
      refine s_Sl (As := [.ref a, .int x15]) (rest := [.long (wlf x18.toNatClampNeg), .int x18, .ref wl]) (wr := [(w, .inr (7, [.ref wi, .ref wo, .ref wh, .int win, .int won, .int whn, .int wpl, .ref wd, .int wdn, .int wfo, .ref wm, .int wmn, .ref wp, .int wpn, .ref wb, .int wbn, .ref wc, .int wcn, .ref wl, .int wat, .int wnu])), (wl, .inl (cJ, 4, .inr (.inl wlf)))]) (ws' := wd_Mo_sumOf w wl a wi wo wh wd wm wp wb wc cB cI cJ aL win won whn wpl wdn wfo wmn wpn wbn wcn wat wnu wlf af) C.call (c_Mo_word l dC dI cB cI cJ a aL af x15 hc122) (va_cwS 2 hts (gd_S w_437 w_438 w_365 w_439) rfl rfl rfl hd_Mo_word ⟨Nat.le_of_ble_eq_true rfl, Nat.le_of_ble_eq_true rfl⟩) rfl hl.1 rfl (Nat.le_of_ble_eq_true rfl) d_Mo_sumOf_122 ⟨Nat.le_of_ble_eq_true rfl, Nat.le_of_ble_eq_true rfl⟩ hZ hK hP hD hS hA [2] [0, 1] [0, 1, 2] rfl rfl rfl rfl (by decide) rfl rfl (fun H locs hP hD hS => ?_)
      refine lv_lload hx hb d_Mo_sumOf_125 (lv_at hl 4 rfl) ?_
      obtain ⟨r127, hc127, hf⟩ := bd1_some hf
      refine s_Sl (As := [.long r122, .long x6]) (rest := [.long (wlf x18.toNatClampNeg), .int x18, .ref wl]) (wr := [(w, .inr (7, [.ref wi, .ref wo, .ref wh, .int win, .int won, .int whn, .int wpl, .ref wd, .int wdn, .int wfo, .ref wm, .int wmn, .ref wp, .int wpn, .ref wb, .int wbn, .ref wc, .int wcn, .ref wl, .int wat, .int wnu])), (wl, .inl (cJ, 4, .inr (.inl wlf))), (a, .inl (cI, aL, .inl af))]) (ws' := wd_Mo_sumOf w wl a wi wo wh wd wm wp wb wc cB cI cJ aL win won whn wpl wdn wfo wmn wpn wbn wcn wat wnu wlf af) C.call (c_Mo_times l dC dI cB cI cJ    r122 x6 hc127) (va_cwS 2 hts (gd_S w_431 w_432 w_365 w_433) rfl rfl rfl hd_Mo_times ⟨Nat.le_of_ble_eq_true rfl, Nat.le_of_ble_eq_true rfl⟩) rfl hl.1 rfl (Nat.le_of_ble_eq_true rfl) d_Mo_sumOf_127 ⟨Nat.le_of_ble_eq_true rfl, Nat.le_of_ble_eq_true rfl⟩ hZ hK hP hD hS hA [] [0, 1, 2] [0, 1, 2] rfl rfl rfl rfl (by decide) rfl rfl (fun H locs hP hD hS => ?_)
      refine lv_ladd hx hb d_Mo_sumOf_130 ?_
      refine lv_ldc2 (v := 4294967295) hx hb hown (hts _ w_425) d_Mo_sumOf_131 ?_
      refine lv_land hx hb d_Mo_sumOf_134 ?_
      refine lv_bipush (v := 13) hx hb d_Mo_sumOf_135 (by decide) ?_
      obtain ⟨r137, hc137, hf⟩ := bd1_some hf
      refine s_Sl (As := [.long (((wlf x18.toNatClampNeg) + r127) &&& (4294967295 : Int64)), .int (13 : Int32)]) (rest := [.int x18, .ref wl]) (wr := [(w, .inr (7, [.ref wi, .ref wo, .ref wh, .int win, .int won, .int whn, .int wpl, .ref wd, .int wdn, .int wfo, .ref wm, .int wmn, .ref wp, .int wpn, .ref wb, .int wbn, .ref wc, .int wcn, .ref wl, .int wat, .int wnu])), (wl, .inl (cJ, 4, .inr (.inl wlf))), (a, .inl (cI, aL, .inl af))]) (ws' := wd_Mo_sumOf w wl a wi wo wh wd wm wp wb wc cB cI cJ aL win won whn wpl wdn wfo wmn wpn wbn wcn wat wnu wlf af) C.call (c_Mo_turned l dC dI cB cI cJ    (((wlf x18.toNatClampNeg) + r127) &&& (4294967295 : Int64)) (13 : Int32) hc137) (va_cwS 2 hts (gd_S w_434 w_435 w_365 w_436) rfl rfl rfl hd_Mo_turned ⟨Nat.le_of_ble_eq_true rfl, Nat.le_of_ble_eq_true rfl⟩) rfl hl.1 rfl (Nat.le_of_ble_eq_true rfl) d_Mo_sumOf_137 ⟨Nat.le_of_ble_eq_true rfl, Nat.le_of_ble_eq_true rfl⟩ hZ hK hP hD hS hA [] [0, 1, 2] [0, 1, 2] rfl rfl rfl rfl (by decide) rfl rfl (fun H locs hP hD hS => ?_)
      refine lv_lload hx hb d_Mo_sumOf_140 (lv_at hl 3 rfl) ?_
      obtain ⟨r142, hc142, hf⟩ := bd1_some hf
      refine s_Sl (As := [.long r137, .long x4]) (rest := [.int x18, .ref wl]) (wr := [(w, .inr (7, [.ref wi, .ref wo, .ref wh, .int win, .int won, .int whn, .int wpl, .ref wd, .int wdn, .int wfo, .ref wm, .int wmn, .ref wp, .int wpn, .ref wb, .int wbn, .ref wc, .int wcn, .ref wl, .int wat, .int wnu])), (wl, .inl (cJ, 4, .inr (.inl wlf))), (a, .inl (cI, aL, .inl af))]) (ws' := wd_Mo_sumOf w wl a wi wo wh wd wm wp wb wc cB cI cJ aL win won whn wpl wdn wfo wmn wpn wbn wcn wat wnu wlf af) C.call (c_Mo_times l dC dI cB cI cJ    r137 x4 hc142) (va_cwS 2 hts (gd_S w_431 w_432 w_365 w_433) rfl rfl rfl hd_Mo_times ⟨Nat.le_of_ble_eq_true rfl, Nat.le_of_ble_eq_true rfl⟩) rfl hl.1 rfl (Nat.le_of_ble_eq_true rfl) d_Mo_sumOf_142 ⟨Nat.le_of_ble_eq_true rfl, Nat.le_of_ble_eq_true rfl⟩ hZ hK hP hD hS hA [] [0, 1, 2] [0, 1, 2] rfl rfl rfl rfl (by decide) rfl rfl (fun H locs hP hD hS => ?_)
      obtain ⟨h_in, hf⟩ := as_some hf
      refine va_last hx hb hK hP hD hS 1 2 rfl rfl h_in d_Mo_sumOf_145 (fun H locs hP hD hS => ?_)
      have hP : va_P (dC, dI) vwCl (wd_Mo_sumOf w wl a wi wo wh wd wm wp wb wc cB cI cJ aL win won whn wpl wdn wfo wmn wpn wbn wcn wat wnu (vp_updL wlf x18.toNatClampNeg r142) af) H := hP
      have hD : va_D A (wd_Mo_sumOf w wl a wi wo wh wd wm wp wb wc cB cI cJ aL win won whn wpl wdn wfo wmn wpn wbn wcn wat wnu (vp_updL wlf x18.toNatClampNeg r142) af) := hD
      refine lv_iinc (v := (x15 + 4)) (lv' := [(15, .int (x15 + 4)), (0, .ref w), (1, .ref a), (3, .int x3), (4, .long x4), (6, .long x6), (8, .long x8), (10, .long x10), (12, .long x12), (14, .int x14), (18, .int x18)]) hx hb d_Mo_sumOf_146 hl (k := 9) rfl (congrArg (fun z => x15 + z) (by decide)) (by decide) rfl (fun ls hl => ?_)
      refine lv_iinc (v := (x18 + 1)) (lv' := [(18, .int (x18 + 1)), (15, .int (x15 + 4)), (0, .ref w), (1, .ref a), (3, .int x3), (4, .long x4), (6, .long x6), (8, .long x8), (10, .long x10), (12, .long x12), (14, .int x14)]) hx hb d_Mo_sumOf_149 hl (k := 10) rfl (congrArg (fun z => x18 + z) (by decide)) (by decide) rfl (fun ls hl => ?_)
      refine lv_goto (tgt := 100) hx hb d_Mo_sumOf_152 (by decide) ?_
      exact ih100 (x15 + 4) (x18 + 1) (vp_updL wlf x18.toNatClampNeg r142) hf _ _ hP hD hS _ (lv_sub hl [2, 3, 4, 5, 6, 7, 8, 9, 10, 1, 0] rfl)
noncomputable def b_Mo_sumOf_88 (N : Nat) (aL : Nat) (x3 : Int32) (x4 : Int64) (x6 : Int64) (x8 : Int64) (x10 : Int64) (x12 : Int64) (x14 : Int32) (af : Nat → Int32)  (kh88 : Int32 → (Nat → Int64) → Option (Int64 × (Nat → Int64))) (x15 : Int32) (wlf : Nat → Int64) : Option (Int64 × (Nat → Int64)) :=
  (if (x3 - x15) < (16 : Int32) then as_ (vp_in (0 : Int32) 4) (bd1 (f_Mo_turned (wlf (0 : Int32).toNatClampNeg) (1 : Int32)) (fun r165 => as_ (vp_in (1 : Int32) 4) (bd1 (f_Mo_turned (wlf (1 : Int32).toNatClampNeg) (7 : Int32)) (fun r176 => as_ (vp_in (2 : Int32) 4) (bd1 (f_Mo_turned (wlf (2 : Int32).toNatClampNeg) (12 : Int32)) (fun r188 => as_ (vp_in (3 : Int32) 4) (bd1 (f_Mo_turned (wlf (3 : Int32).toNatClampNeg) (18 : Int32)) (fun r200 => (j_Mo_sumOf_210 N aL x3 x4 x6 x8 x10 x12 x14 x15 ((((r165 + r176) + r188) + r200) &&& (4294967295 : Int64)) wlf af ))))))))) else (loop3 (b_Mo_sumOf_100 aL x4 x6 af kh88) N x15 (0 : Int32) wlf))
set_option maxHeartbeats 4000000 in
set_option maxRecDepth 100000 in
theorem k_Mo_sumOf_88 {r_z : Int64} {wlf_z : Nat → Int64} (C : Fx p s m args meth c cd_Mo_sumOf 19 R_Mo lw_g (some .long)) (hK : va_K (dC, dI) vwCl [(cB, .byte), (cI, .int), (cJ, .long)] s) (hA : ∀ q, s.heap.size ≤ q → A q) (x3 : Int32) (x4 : Int64) (x6 : Int64) (x8 : Int64) (x10 : Int64) (x12 : Int64) (x14 : Int32) (win : Int32) (won : Int32) (whn : Int32) (wpl : Int32) (wdn : Int32) (wfo : Int32) (wmn : Int32) (wpn : Int32) (wbn : Int32) (wcn : Int32) (wat : Int32) (wnu : Int32) (af : Nat → Int32)  : ∀ (n : Nat) (x15 : Int32) (wlf : Nat → Int64), loop2 (b_Mo_sumOf_88 N aL x3 x4 x6 x8 x10 x12 x14 af ) n x15 wlf = some (r_z, wlf_z) → ∀ (H : Heap) (locs : List Loc), va_P (dC, dI) vwCl (wd_Mo_sumOf w wl a wi wo wh wd wm wp wb wc cB cI cJ aL win won whn wpl wdn wfo wmn wpn wbn wcn wat wnu wlf af) H → va_D A (wd_Mo_sumOf w wl a wi wo wh wd wm wp wb wc cB cI cJ aL win won whn wpl wdn wfo wmn wpn wbn wcn wat wnu wlf af) → va_S A s.heap H locs → ∀ (ls : Array Slot), lv_has ls 19 [(0, .ref w), (1, .ref a), (3, .int x3), (4, .long x4), (6, .long x6), (8, .long x8), (10, .long x10), (12, .long x12), (14, .int x14), (15, .int x15)] → W p l e rm_Mo_sumOf s m args below meth c H locs 0 0 (MQ below (sQl (dC, dI) vwCl [(cB, .byte), (cI, .int), (cJ, .long)] A r_z (wd_Mo_sumOf w wl a wi wo wh wd wm wp wb wc cB cI cJ aL win won whn wpl wdn wfo wmn wpn wbn wcn wat wnu wlf_z af)) args s 0 0 A) (F0 m 88 ls []) := by
  obtain ⟨hx, hb, hml, hown, hts, hr, hlocks, hZ⟩ := id C
  intro n
  induction n with
  | zero => intro x15 wlf hf; cases hf
  | succ n ih88 =>
    intro x15 wlf hf H locs hP hD hS ls hl
    have hf : b_Mo_sumOf_88 N aL x3 x4 x6 x8 x10 x12 x14 af  (loop2 (b_Mo_sumOf_88 N aL x3 x4 x6 x8 x10 x12 x14 af ) n) x15 wlf = some (r_z, wlf_z) := hf
    generalize loop2 (b_Mo_sumOf_88 N aL x3 x4 x6 x8 x10 x12 x14 af ) n = kh88 at hf ih88
    unfold b_Mo_sumOf_88 at hf
    refine lv_iload_n hx hb d_Mo_sumOf_88 rfl (lv_at hl 2 rfl) ?_
    refine lv_iload hx hb d_Mo_sumOf_89 (lv_at hl 9 rfl) ?_
    refine lv_isub hx hb d_Mo_sumOf_91 ?_
    refine lv_bipush (v := 16) hx hb d_Mo_sumOf_92 (by decide) ?_
    refine lv_icmp_lt (tgt := 158) hx hb d_Mo_sumOf_94 (by decide) (fun c_94 => ?_) (fun c_94 => ?_)
    · have hf := br_pos c_94 hf
      refine lv_aload_n hx hb d_Mo_sumOf_158 rfl (lv_at hl 0 rfl) ?_
      refine va_get (D := (dC, dI)) (ci := 7) (v := .ref wl) (C := R_Mo) (T := T_Mo) (N := 21) hx hb hts w_359 hown hK hP 0 rfl rfl 18 (by decide) (hts _ w_440) (fun _ h9 => h9) rfl d_Mo_sumOf_159 ?_
      refine lv_iconst (v := 0) hx hb d_Mo_sumOf_162 (by decide) ?_
      obtain ⟨h_in, hf⟩ := as_some hf
      refine va_lald hx hb hK hP 1 2 rfl rfl h_in d_Mo_sumOf_163 ?_
      refine lv_iconst (v := 1) hx hb d_Mo_sumOf_164 (by decide) ?_
      obtain ⟨r165, hc165, hf⟩ := bd1_some hf
      refine s_Sl (As := [.long (wlf (0 : Int32).toNatClampNeg), .int (1 : Int32)]) (rest := []) (wr := [(w, .inr (7, [.ref wi, .ref wo, .ref wh, .int win, .int won, .int whn, .int wpl, .ref wd, .int wdn, .int wfo, .ref wm, .int wmn, .ref wp, .int wpn, .ref wb, .int wbn, .ref wc, .int wcn, .ref wl, .int wat, .int wnu])), (wl, .inl (cJ, 4, .inr (.inl wlf))), (a, .inl (cI, aL, .inl af))]) (ws' := wd_Mo_sumOf w wl a wi wo wh wd wm wp wb wc cB cI cJ aL win won whn wpl wdn wfo wmn wpn wbn wcn wat wnu wlf af) C.call (c_Mo_turned l dC dI cB cI cJ    (wlf (0 : Int32).toNatClampNeg) (1 : Int32) hc165) (va_cwS 2 hts (gd_S w_434 w_435 w_365 w_436) rfl rfl rfl hd_Mo_turned ⟨Nat.le_of_ble_eq_true rfl, Nat.le_of_ble_eq_true rfl⟩) rfl hl.1 rfl (Nat.le_of_ble_eq_true rfl) d_Mo_sumOf_165 ⟨Nat.le_of_ble_eq_true rfl, Nat.le_of_ble_eq_true rfl⟩ hZ hK hP hD hS hA [] [0, 1, 2] [0, 1, 2] rfl rfl rfl rfl (by decide) rfl rfl (fun H locs hP hD hS => ?_)
      refine lv_aload_n hx hb d_Mo_sumOf_168 rfl (lv_at hl 0 rfl) ?_
      refine va_get (D := (dC, dI)) (ci := 7) (v := .ref wl) (C := R_Mo) (T := T_Mo) (N := 21) hx hb hts w_359 hown hK hP 0 rfl rfl 18 (by decide) (hts _ w_440) (fun _ h9 => h9) rfl d_Mo_sumOf_169 ?_
      refine lv_iconst (v := 1) hx hb d_Mo_sumOf_172 (by decide) ?_
      obtain ⟨h_in, hf⟩ := as_some hf
      refine va_lald hx hb hK hP 1 2 rfl rfl h_in d_Mo_sumOf_173 ?_
      refine lv_bipush (v := 7) hx hb d_Mo_sumOf_174 (by decide) ?_
      obtain ⟨r176, hc176, hf⟩ := bd1_some hf
      refine s_Sl (As := [.long (wlf (1 : Int32).toNatClampNeg), .int (7 : Int32)]) (rest := [.long r165]) (wr := [(w, .inr (7, [.ref wi, .ref wo, .ref wh, .int win, .int won, .int whn, .int wpl, .ref wd, .int wdn, .int wfo, .ref wm, .int wmn, .ref wp, .int wpn, .ref wb, .int wbn, .ref wc, .int wcn, .ref wl, .int wat, .int wnu])), (wl, .inl (cJ, 4, .inr (.inl wlf))), (a, .inl (cI, aL, .inl af))]) (ws' := wd_Mo_sumOf w wl a wi wo wh wd wm wp wb wc cB cI cJ aL win won whn wpl wdn wfo wmn wpn wbn wcn wat wnu wlf af) C.call (c_Mo_turned l dC dI cB cI cJ    (wlf (1 : Int32).toNatClampNeg) (7 : Int32) hc176) (va_cwS 2 hts (gd_S w_434 w_435 w_365 w_436) rfl rfl rfl hd_Mo_turned ⟨Nat.le_of_ble_eq_true rfl, Nat.le_of_ble_eq_true rfl⟩) rfl hl.1 rfl (Nat.le_of_ble_eq_true rfl) d_Mo_sumOf_176 ⟨Nat.le_of_ble_eq_true rfl, Nat.le_of_ble_eq_true rfl⟩ hZ hK hP hD hS hA [] [0, 1, 2] [0, 1, 2] rfl rfl rfl rfl (by decide) rfl rfl (fun H locs hP hD hS => ?_)
      refine lv_ladd hx hb d_Mo_sumOf_179 ?_
      refine lv_aload_n hx hb d_Mo_sumOf_180 rfl (lv_at hl 0 rfl) ?_
      refine va_get (D := (dC, dI)) (ci := 7) (v := .ref wl) (C := R_Mo) (T := T_Mo) (N := 21) hx hb hts w_359 hown hK hP 0 rfl rfl 18 (by decide) (hts _ w_440) (fun _ h9 => h9) rfl d_Mo_sumOf_181 ?_
      refine lv_iconst (v := 2) hx hb d_Mo_sumOf_184 (by decide) ?_
      obtain ⟨h_in, hf⟩ := as_some hf
      refine va_lald hx hb hK hP 1 2 rfl rfl h_in d_Mo_sumOf_185 ?_
      refine lv_bipush (v := 12) hx hb d_Mo_sumOf_186 (by decide) ?_
      obtain ⟨r188, hc188, hf⟩ := bd1_some hf
      refine s_Sl (As := [.long (wlf (2 : Int32).toNatClampNeg), .int (12 : Int32)]) (rest := [.long (r165 + r176)]) (wr := [(w, .inr (7, [.ref wi, .ref wo, .ref wh, .int win, .int won, .int whn, .int wpl, .ref wd, .int wdn, .int wfo, .ref wm, .int wmn, .ref wp, .int wpn, .ref wb, .int wbn, .ref wc, .int wcn, .ref wl, .int wat, .int wnu])), (wl, .inl (cJ, 4, .inr (.inl wlf))), (a, .inl (cI, aL, .inl af))]) (ws' := wd_Mo_sumOf w wl a wi wo wh wd wm wp wb wc cB cI cJ aL win won whn wpl wdn wfo wmn wpn wbn wcn wat wnu wlf af) C.call (c_Mo_turned l dC dI cB cI cJ    (wlf (2 : Int32).toNatClampNeg) (12 : Int32) hc188) (va_cwS 2 hts (gd_S w_434 w_435 w_365 w_436) rfl rfl rfl hd_Mo_turned ⟨Nat.le_of_ble_eq_true rfl, Nat.le_of_ble_eq_true rfl⟩) rfl hl.1 rfl (Nat.le_of_ble_eq_true rfl) d_Mo_sumOf_188 ⟨Nat.le_of_ble_eq_true rfl, Nat.le_of_ble_eq_true rfl⟩ hZ hK hP hD hS hA [] [0, 1, 2] [0, 1, 2] rfl rfl rfl rfl (by decide) rfl rfl (fun H locs hP hD hS => ?_)
      refine lv_ladd hx hb d_Mo_sumOf_191 ?_
      refine lv_aload_n hx hb d_Mo_sumOf_192 rfl (lv_at hl 0 rfl) ?_
      refine va_get (D := (dC, dI)) (ci := 7) (v := .ref wl) (C := R_Mo) (T := T_Mo) (N := 21) hx hb hts w_359 hown hK hP 0 rfl rfl 18 (by decide) (hts _ w_440) (fun _ h9 => h9) rfl d_Mo_sumOf_193 ?_
      refine lv_iconst (v := 3) hx hb d_Mo_sumOf_196 (by decide) ?_
      obtain ⟨h_in, hf⟩ := as_some hf
      refine va_lald hx hb hK hP 1 2 rfl rfl h_in d_Mo_sumOf_197 ?_
      refine lv_bipush (v := 18) hx hb d_Mo_sumOf_198 (by decide) ?_
      obtain ⟨r200, hc200, hf⟩ := bd1_some hf
      refine s_Sl (As := [.long (wlf (3 : Int32).toNatClampNeg), .int (18 : Int32)]) (rest := [.long ((r165 + r176) + r188)]) (wr := [(w, .inr (7, [.ref wi, .ref wo, .ref wh, .int win, .int won, .int whn, .int wpl, .ref wd, .int wdn, .int wfo, .ref wm, .int wmn, .ref wp, .int wpn, .ref wb, .int wbn, .ref wc, .int wcn, .ref wl, .int wat, .int wnu])), (wl, .inl (cJ, 4, .inr (.inl wlf))), (a, .inl (cI, aL, .inl af))]) (ws' := wd_Mo_sumOf w wl a wi wo wh wd wm wp wb wc cB cI cJ aL win won whn wpl wdn wfo wmn wpn wbn wcn wat wnu wlf af) C.call (c_Mo_turned l dC dI cB cI cJ    (wlf (3 : Int32).toNatClampNeg) (18 : Int32) hc200) (va_cwS 2 hts (gd_S w_434 w_435 w_365 w_436) rfl rfl rfl hd_Mo_turned ⟨Nat.le_of_ble_eq_true rfl, Nat.le_of_ble_eq_true rfl⟩) rfl hl.1 rfl (Nat.le_of_ble_eq_true rfl) d_Mo_sumOf_200 ⟨Nat.le_of_ble_eq_true rfl, Nat.le_of_ble_eq_true rfl⟩ hZ hK hP hD hS hA [] [0, 1, 2] [0, 1, 2] rfl rfl rfl rfl (by decide) rfl rfl (fun H locs hP hD hS => ?_)
      refine lv_ladd hx hb d_Mo_sumOf_203 ?_
      refine lv_ldc2 (v := 4294967295) hx hb hown (hts _ w_425) d_Mo_sumOf_204 ?_
      refine lv_land hx hb d_Mo_sumOf_207 ?_
      refine lv_lstore (lv' := [(16, .long ((((r165 + r176) + r188) + r200) &&& (4294967295 : Int64))), (0, .ref w), (1, .ref a), (3, .int x3), (4, .long x4), (6, .long x6), (8, .long x8), (10, .long x10), (12, .long x12), (14, .int x14), (15, .int x15)]) hx hb d_Mo_sumOf_208 hl (by decide) rfl (fun ls hl => ?_)
      exact k_Mo_sumOf_210 C hK hA x3 x4 x6 x8 x10 x12 x14 x15 ((((r165 + r176) + r188) + r200) &&& (4294967295 : Int64)) win won whn wpl wdn wfo wmn wpn wbn wcn wat wnu wlf af  hf hP hD hS (lv_sub hl [2, 3, 4, 5, 6, 7, 8, 9, 10, 0] rfl)
    · have hf := br_neg c_94 hf
      refine lv_iconst (v := 0) hx hb d_Mo_sumOf_97 (by decide) ?_
      refine lv_istore (lv' := [(18, .int (0 : Int32)), (0, .ref w), (1, .ref a), (3, .int x3), (4, .long x4), (6, .long x6), (8, .long x8), (10, .long x10), (12, .long x12), (14, .int x14), (15, .int x15)]) hx hb d_Mo_sumOf_98 hl (by decide) rfl (fun ls hl => ?_)
      exact k_Mo_sumOf_100 C hK hA x3 x4 x6 x8 x10 x12 x14 win won whn wpl wdn wfo wmn wpn wbn wcn wat wnu af kh88 ih88 N x15 (0 : Int32) wlf hf _ _ hP hD hS _ (lv_sub hl [1, 2, 3, 4, 5, 6, 7, 8, 9, 10, 0] rfl)
noncomputable def j_Mo_sumOf_0 (N : Nat) (aL : Nat) (x2 : Int32) (x3 : Int32) (wlf : Nat → Int64) (af : Nat → Int32)  : Option (Int64 × (Nat → Int64)) :=
  (if (x3 - x2) < (16 : Int32) then (j_Mo_sumOf_210 N aL x3 (2654435761 : Int64) (2246822519 : Int64) (3266489917 : Int64) (668265263 : Int64) (374761393 : Int64) (x3 - x2) x2 (374761393 : Int64) wlf af ) else as_ (vp_in (0 : Int32) 4) (as_ (vp_in (1 : Int32) 4) (as_ (vp_in (2 : Int32) 4) (as_ (vp_in (3 : Int32) 4) ((loop2 (b_Mo_sumOf_88 N aL x3 (2654435761 : Int64) (2246822519 : Int64) (3266489917 : Int64) (668265263 : Int64) (374761393 : Int64) (x3 - x2) af ) N x2 (vp_updL (vp_updL (vp_updL (vp_updL wlf (0 : Int32).toNatClampNeg (((2654435761 : Int64) + (2246822519 : Int64)) &&& (4294967295 : Int64))) (1 : Int32).toNatClampNeg (2246822519 : Int64)) (2 : Int32).toNatClampNeg (0 : Int64)) (3 : Int32).toNatClampNeg (((0 : Int64) - (2654435761 : Int64)) &&& (4294967295 : Int64)))))))))
set_option maxHeartbeats 4000000 in
set_option maxRecDepth 100000 in
theorem k_Mo_sumOf_0 {r_z : Int64} {wlf_z : Nat → Int64} (C : Fx p s m args meth c cd_Mo_sumOf 19 R_Mo lw_g (some .long)) (hK : va_K (dC, dI) vwCl [(cB, .byte), (cI, .int), (cJ, .long)] s) (hA : ∀ q, s.heap.size ≤ q → A q) (x2 : Int32) (x3 : Int32) (win : Int32) (won : Int32) (whn : Int32) (wpl : Int32) (wdn : Int32) (wfo : Int32) (wmn : Int32) (wpn : Int32) (wbn : Int32) (wcn : Int32) (wat : Int32) (wnu : Int32) (wlf : Nat → Int64) (af : Nat → Int32)  (hf : j_Mo_sumOf_0 N aL x2 x3 wlf af  = some (r_z, wlf_z)) (hP : va_P (dC, dI) vwCl (wd_Mo_sumOf w wl a wi wo wh wd wm wp wb wc cB cI cJ aL win won whn wpl wdn wfo wmn wpn wbn wcn wat wnu wlf af) H) (hD : va_D A (wd_Mo_sumOf w wl a wi wo wh wd wm wp wb wc cB cI cJ aL win won whn wpl wdn wfo wmn wpn wbn wcn wat wnu wlf af)) (hS : va_S A s.heap H locs) (hl : lv_has ls 19 [(0, .ref w), (1, .ref a), (2, .int x2), (3, .int x3)]) : W p l e rm_Mo_sumOf s m args below meth c H locs 0 0 (MQ below (sQl (dC, dI) vwCl [(cB, .byte), (cI, .int), (cJ, .long)] A r_z (wd_Mo_sumOf w wl a wi wo wh wd wm wp wb wc cB cI cJ aL win won whn wpl wdn wfo wmn wpn wbn wcn wat wnu wlf_z af)) args s 0 0 A) (F0 m 0 ls []) := by
  obtain ⟨hx, hb, hml, hown, hts, hr, hlocks, hZ⟩ := id C
  unfold j_Mo_sumOf_0 at hf
  refine lv_ldc2 (v := 2654435761) hx hb hown (hts _ w_426) d_Mo_sumOf_0 ?_
  refine lv_lstore (lv' := [(4, .long (2654435761 : Int64)), (0, .ref w), (1, .ref a), (2, .int x2), (3, .int x3)]) hx hb d_Mo_sumOf_3 hl (by decide) rfl (fun ls hl => ?_)
  refine lv_ldc2 (v := 2246822519) hx hb hown (hts _ w_427) d_Mo_sumOf_5 ?_
  refine lv_lstore (lv' := [(6, .long (2246822519 : Int64)), (4, .long (2654435761 : Int64)), (0, .ref w), (1, .ref a), (2, .int x2), (3, .int x3)]) hx hb d_Mo_sumOf_8 hl (by decide) rfl (fun ls hl => ?_)
  refine lv_ldc2 (v := 3266489917) hx hb hown (hts _ w_428) d_Mo_sumOf_10 ?_
  refine lv_lstore (lv' := [(8, .long (3266489917 : Int64)), (6, .long (2246822519 : Int64)), (4, .long (2654435761 : Int64)), (0, .ref w), (1, .ref a), (2, .int x2), (3, .int x3)]) hx hb d_Mo_sumOf_13 hl (by decide) rfl (fun ls hl => ?_)
  refine lv_ldc2 (v := 668265263) hx hb hown (hts _ w_429) d_Mo_sumOf_15 ?_
  refine lv_lstore (lv' := [(10, .long (668265263 : Int64)), (8, .long (3266489917 : Int64)), (6, .long (2246822519 : Int64)), (4, .long (2654435761 : Int64)), (0, .ref w), (1, .ref a), (2, .int x2), (3, .int x3)]) hx hb d_Mo_sumOf_18 hl (by decide) rfl (fun ls hl => ?_)
  refine lv_ldc2 (v := 374761393) hx hb hown (hts _ w_430) d_Mo_sumOf_20 ?_
  refine lv_lstore (lv' := [(12, .long (374761393 : Int64)), (10, .long (668265263 : Int64)), (8, .long (3266489917 : Int64)), (6, .long (2246822519 : Int64)), (4, .long (2654435761 : Int64)), (0, .ref w), (1, .ref a), (2, .int x2), (3, .int x3)]) hx hb d_Mo_sumOf_23 hl (by decide) rfl (fun ls hl => ?_)
  refine lv_iload_n hx hb d_Mo_sumOf_25 rfl (lv_at hl 8 rfl) ?_
  refine lv_iload_n hx hb d_Mo_sumOf_26 rfl (lv_at hl 7 rfl) ?_
  refine lv_isub hx hb d_Mo_sumOf_27 ?_
  refine lv_istore (lv' := [(14, .int (x3 - x2)), (12, .long (374761393 : Int64)), (10, .long (668265263 : Int64)), (8, .long (3266489917 : Int64)), (6, .long (2246822519 : Int64)), (4, .long (2654435761 : Int64)), (0, .ref w), (1, .ref a), (2, .int x2), (3, .int x3)]) hx hb d_Mo_sumOf_28 hl (by decide) rfl (fun ls hl => ?_)
  refine lv_iload_n hx hb d_Mo_sumOf_30 rfl (lv_at hl 8 rfl) ?_
  refine lv_istore (lv' := [(15, .int x2), (14, .int (x3 - x2)), (12, .long (374761393 : Int64)), (10, .long (668265263 : Int64)), (8, .long (3266489917 : Int64)), (6, .long (2246822519 : Int64)), (4, .long (2654435761 : Int64)), (0, .ref w), (1, .ref a), (2, .int x2), (3, .int x3)]) hx hb d_Mo_sumOf_31 hl (by decide) rfl (fun ls hl => ?_)
  refine lv_lload hx hb d_Mo_sumOf_33 (lv_at hl 2 rfl) ?_
  refine lv_lstore (lv' := [(16, .long (374761393 : Int64)), (15, .int x2), (14, .int (x3 - x2)), (12, .long (374761393 : Int64)), (10, .long (668265263 : Int64)), (8, .long (3266489917 : Int64)), (6, .long (2246822519 : Int64)), (4, .long (2654435761 : Int64)), (0, .ref w), (1, .ref a), (2, .int x2), (3, .int x3)]) hx hb d_Mo_sumOf_35 hl (by decide) rfl (fun ls hl => ?_)
  refine lv_iload hx hb d_Mo_sumOf_37 (lv_at hl 2 rfl) ?_
  refine lv_bipush (v := 16) hx hb d_Mo_sumOf_39 (by decide) ?_
  refine lv_icmp_lt (tgt := 210) hx hb d_Mo_sumOf_41 (by decide) (fun c_41 => ?_) (fun c_41 => ?_)
  · have hf := br_pos c_41 hf
    exact k_Mo_sumOf_210 C hK hA x3 (2654435761 : Int64) (2246822519 : Int64) (3266489917 : Int64) (668265263 : Int64) (374761393 : Int64) (x3 - x2) x2 (374761393 : Int64) win won whn wpl wdn wfo wmn wpn wbn wcn wat wnu wlf af  hf hP hD hS (lv_sub hl [9, 11, 7, 6, 5, 4, 3, 2, 1, 0] rfl)
  · have hf := br_neg c_41 hf
    refine lv_aload_n hx hb d_Mo_sumOf_44 rfl (lv_at hl 8 rfl) ?_
    refine va_get (D := (dC, dI)) (ci := 7) (v := .ref wl) (C := R_Mo) (T := T_Mo) (N := 21) hx hb hts w_359 hown hK hP 0 rfl rfl 18 (by decide) (hts _ w_440) (fun _ h9 => h9) rfl d_Mo_sumOf_45 ?_
    refine lv_iconst (v := 0) hx hb d_Mo_sumOf_48 (by decide) ?_
    refine lv_lload hx hb d_Mo_sumOf_49 (lv_at hl 7 rfl) ?_
    refine lv_lload hx hb d_Mo_sumOf_51 (lv_at hl 6 rfl) ?_
    refine lv_ladd hx hb d_Mo_sumOf_53 ?_
    refine lv_ldc2 (v := 4294967295) hx hb hown (hts _ w_425) d_Mo_sumOf_54 ?_
    refine lv_land hx hb d_Mo_sumOf_57 ?_
    obtain ⟨h_in, hf⟩ := as_some hf
    refine va_last hx hb hK hP hD hS 1 2 rfl rfl h_in d_Mo_sumOf_58 (fun H locs hP hD hS => ?_)
    have hP : va_P (dC, dI) vwCl (wd_Mo_sumOf w wl a wi wo wh wd wm wp wb wc cB cI cJ aL win won whn wpl wdn wfo wmn wpn wbn wcn wat wnu (vp_updL wlf (0 : Int32).toNatClampNeg (((2654435761 : Int64) + (2246822519 : Int64)) &&& (4294967295 : Int64))) af) H := hP
    have hD : va_D A (wd_Mo_sumOf w wl a wi wo wh wd wm wp wb wc cB cI cJ aL win won whn wpl wdn wfo wmn wpn wbn wcn wat wnu (vp_updL wlf (0 : Int32).toNatClampNeg (((2654435761 : Int64) + (2246822519 : Int64)) &&& (4294967295 : Int64))) af) := hD
    refine lv_aload_n hx hb d_Mo_sumOf_59 rfl (lv_at hl 8 rfl) ?_
    refine va_get (D := (dC, dI)) (ci := 7) (v := .ref wl) (C := R_Mo) (T := T_Mo) (N := 21) hx hb hts w_359 hown hK hP 0 rfl rfl 18 (by decide) (hts _ w_440) (fun _ h9 => h9) rfl d_Mo_sumOf_60 ?_
    refine lv_iconst (v := 1) hx hb d_Mo_sumOf_63 (by decide) ?_
    refine lv_lload hx hb d_Mo_sumOf_64 (lv_at hl 6 rfl) ?_
    obtain ⟨h_in, hf⟩ := as_some hf
    refine va_last hx hb hK hP hD hS 1 2 rfl rfl h_in d_Mo_sumOf_66 (fun H locs hP hD hS => ?_)
    have hP : va_P (dC, dI) vwCl (wd_Mo_sumOf w wl a wi wo wh wd wm wp wb wc cB cI cJ aL win won whn wpl wdn wfo wmn wpn wbn wcn wat wnu (vp_updL (vp_updL wlf (0 : Int32).toNatClampNeg (((2654435761 : Int64) + (2246822519 : Int64)) &&& (4294967295 : Int64))) (1 : Int32).toNatClampNeg (2246822519 : Int64)) af) H := hP
    have hD : va_D A (wd_Mo_sumOf w wl a wi wo wh wd wm wp wb wc cB cI cJ aL win won whn wpl wdn wfo wmn wpn wbn wcn wat wnu (vp_updL (vp_updL wlf (0 : Int32).toNatClampNeg (((2654435761 : Int64) + (2246822519 : Int64)) &&& (4294967295 : Int64))) (1 : Int32).toNatClampNeg (2246822519 : Int64)) af) := hD
    refine lv_aload_n hx hb d_Mo_sumOf_67 rfl (lv_at hl 8 rfl) ?_
    refine va_get (D := (dC, dI)) (ci := 7) (v := .ref wl) (C := R_Mo) (T := T_Mo) (N := 21) hx hb hts w_359 hown hK hP 0 rfl rfl 18 (by decide) (hts _ w_440) (fun _ h9 => h9) rfl d_Mo_sumOf_68 ?_
    refine lv_iconst (v := 2) hx hb d_Mo_sumOf_71 (by decide) ?_
    refine lv_lconst (v := 0) hx hb d_Mo_sumOf_72 (by decide) ?_
    obtain ⟨h_in, hf⟩ := as_some hf
    refine va_last hx hb hK hP hD hS 1 2 rfl rfl h_in d_Mo_sumOf_73 (fun H locs hP hD hS => ?_)
    have hP : va_P (dC, dI) vwCl (wd_Mo_sumOf w wl a wi wo wh wd wm wp wb wc cB cI cJ aL win won whn wpl wdn wfo wmn wpn wbn wcn wat wnu (vp_updL (vp_updL (vp_updL wlf (0 : Int32).toNatClampNeg (((2654435761 : Int64) + (2246822519 : Int64)) &&& (4294967295 : Int64))) (1 : Int32).toNatClampNeg (2246822519 : Int64)) (2 : Int32).toNatClampNeg (0 : Int64)) af) H := hP
    have hD : va_D A (wd_Mo_sumOf w wl a wi wo wh wd wm wp wb wc cB cI cJ aL win won whn wpl wdn wfo wmn wpn wbn wcn wat wnu (vp_updL (vp_updL (vp_updL wlf (0 : Int32).toNatClampNeg (((2654435761 : Int64) + (2246822519 : Int64)) &&& (4294967295 : Int64))) (1 : Int32).toNatClampNeg (2246822519 : Int64)) (2 : Int32).toNatClampNeg (0 : Int64)) af) := hD
    refine lv_aload_n hx hb d_Mo_sumOf_74 rfl (lv_at hl 8 rfl) ?_
    refine va_get (D := (dC, dI)) (ci := 7) (v := .ref wl) (C := R_Mo) (T := T_Mo) (N := 21) hx hb hts w_359 hown hK hP 0 rfl rfl 18 (by decide) (hts _ w_440) (fun _ h9 => h9) rfl d_Mo_sumOf_75 ?_
    refine lv_iconst (v := 3) hx hb d_Mo_sumOf_78 (by decide) ?_
    refine lv_lconst (v := 0) hx hb d_Mo_sumOf_79 (by decide) ?_
    refine lv_lload hx hb d_Mo_sumOf_80 (lv_at hl 7 rfl) ?_
    refine lv_lsub hx hb d_Mo_sumOf_82 ?_
    refine lv_ldc2 (v := 4294967295) hx hb hown (hts _ w_425) d_Mo_sumOf_83 ?_
    refine lv_land hx hb d_Mo_sumOf_86 ?_
    obtain ⟨h_in, hf⟩ := as_some hf
    refine va_last hx hb hK hP hD hS 1 2 rfl rfl h_in d_Mo_sumOf_87 (fun H locs hP hD hS => ?_)
    have hP : va_P (dC, dI) vwCl (wd_Mo_sumOf w wl a wi wo wh wd wm wp wb wc cB cI cJ aL win won whn wpl wdn wfo wmn wpn wbn wcn wat wnu (vp_updL (vp_updL (vp_updL (vp_updL wlf (0 : Int32).toNatClampNeg (((2654435761 : Int64) + (2246822519 : Int64)) &&& (4294967295 : Int64))) (1 : Int32).toNatClampNeg (2246822519 : Int64)) (2 : Int32).toNatClampNeg (0 : Int64)) (3 : Int32).toNatClampNeg (((0 : Int64) - (2654435761 : Int64)) &&& (4294967295 : Int64))) af) H := hP
    have hD : va_D A (wd_Mo_sumOf w wl a wi wo wh wd wm wp wb wc cB cI cJ aL win won whn wpl wdn wfo wmn wpn wbn wcn wat wnu (vp_updL (vp_updL (vp_updL (vp_updL wlf (0 : Int32).toNatClampNeg (((2654435761 : Int64) + (2246822519 : Int64)) &&& (4294967295 : Int64))) (1 : Int32).toNatClampNeg (2246822519 : Int64)) (2 : Int32).toNatClampNeg (0 : Int64)) (3 : Int32).toNatClampNeg (((0 : Int64) - (2654435761 : Int64)) &&& (4294967295 : Int64))) af) := hD
    exact k_Mo_sumOf_88 C hK hA x3 (2654435761 : Int64) (2246822519 : Int64) (3266489917 : Int64) (668265263 : Int64) (374761393 : Int64) (x3 - x2) win won whn wpl wdn wfo wmn wpn wbn wcn wat wnu af  N x2 (vp_updL (vp_updL (vp_updL (vp_updL wlf (0 : Int32).toNatClampNeg (((2654435761 : Int64) + (2246822519 : Int64)) &&& (4294967295 : Int64))) (1 : Int32).toNatClampNeg (2246822519 : Int64)) (2 : Int32).toNatClampNeg (0 : Int64)) (3 : Int32).toNatClampNeg (((0 : Int64) - (2654435761 : Int64)) &&& (4294967295 : Int64))) hf _ _ hP hD hS _ (lv_sub hl [8, 9, 11, 7, 6, 5, 4, 3, 2, 1] rfl)
end
noncomputable abbrev f_Mo_sumOf (N : Nat) (aL : Nat) (x2 : Int32) (x3 : Int32) (wlf : Nat → Int64) (af : Nat → Int32) : Option (Int64 × (Nat → Int64)) := j_Mo_sumOf_0 N aL x2 x3 wlf af
set_option maxRecDepth 100000 in
theorem c_Mo_sumOf {N : Nat} (l : Launch) (dC : Nat → ClassId) (dI : Nat → Nat → Nat) (cB cI cJ : ClassId) (w wl a wi wo wh wd wm wp wb wc aL : Nat) (win : Int32) (won : Int32) (whn : Int32) (wpl : Int32) (wdn : Int32) (wfo : Int32) (wmn : Int32) (wpn : Int32) (wbn : Int32) (wcn : Int32) (wat : Int32) (wnu : Int32) (wlf : Nat → Int64) (af : Nat → Int32) (x2 : Int32) (x3 : Int32) {r_z : Int64} {wlf_z : Nat → Int64} (hf : f_Mo_sumOf N aL x2 x3 wlf af = some (r_z, wlf_z)) : MetL l y_Mo_sumOf ws_Mo_sumOf rm_Mo_sumOf (dC, dI) vwCl [(cB, .byte), (cI, .int), (cJ, .long)] [.ref w, .ref a, .int x2, .int x3] (wd_Mo_sumOf w wl a wi wo wh wd wm wp wb wc cB cI cJ aL win won whn wpl wdn wfo wmn wpn wbn wcn wat wnu wlf af) r_z (wd_Mo_sumOf w wl a wi wo wh wd wm wp wb wc cB cI cJ aL win won whn wpl wdn wfo wmn wpn wbn wcn wat wnu wlf_z af) 0 0 :=
  s_ofl (bytes := cd_Mo_sumOf) (maxL := 19) (ret := (some .long)) (by decide) rfl (Nat.le_of_ble_eq_true rfl) (fun p e s m below meth c A ls C hK hA hP hD hS hl => k_Mo_sumOf_0 C hK hA x2 x3 win won whn wpl wdn wfo wmn wpn wbn wcn wat wnu wlf af hf hP hD hS (lv_sub hl [0, 1, 2, 3] rfl))
