abbrev wd_Mat_latest (mt la d ea : Nat) (cB cI cJ : ClassId) (mc : Int32) (ms : Int32) (ml : Int32) (laf : Nat → Int32) : va_W := [(mt, .inr (3, [.ref d, .ref la, .ref ea, .int mc, .int ms, .int ml])), (la, .inl (cI, 4096, .inl laf))]
abbrev rm_Mat_latest : Room := { frames := 0, cells := 0, slots := 0, locals := 0 }
section
variable {p : Program} {l : Launch} {e : Env} {s : State} {m : MethodId} {args : Array Value} {below : List Frame} {meth : Method} {c : Code} {dC : Nat → ClassId} {dI : Nat → Nat → Nat} {A : Nat → Prop} {cB cI cJ : ClassId} {H : Heap} {locs : List Loc} {ls : Array Slot} {N : Nat} {mt la d ea : Nat}
noncomputable def j_Mat_latest_0 (x1 : Int32) (laf : Nat → Int32)  : Option (Int32) :=
  (if x1 < 0 then (some (-1 : Int32) : Option (Int32)) else (if (Int32.ofNat 4096) ≤ x1 then (some (-1 : Int32) : Option (Int32)) else as_ (vp_in x1 4096) ((some (laf x1.toNatClampNeg) : Option (Int32)))))
set_option maxHeartbeats 4000000 in
set_option maxRecDepth 100000 in
theorem k_Mat_latest_0 {r_z : Int32} (C : Fx p s m args meth c cd_Mat_latest 2 R_Mat lw_g (some .int)) (hK : va_K (dC, dI) vwCl [(cB, .byte), (cI, .int), (cJ, .long)] s) (hA : ∀ q, s.heap.size ≤ q → A q) (x1 : Int32) (mc : Int32) (ms : Int32) (ml : Int32) (laf : Nat → Int32)  (hf : j_Mat_latest_0 x1 laf  = some r_z) (hP : va_P (dC, dI) vwCl (wd_Mat_latest mt la d ea cB cI cJ mc ms ml laf) H) (hD : va_D A (wd_Mat_latest mt la d ea cB cI cJ mc ms ml laf)) (hS : va_S A s.heap H locs) (hl : lv_has ls 2 [(0, .ref mt), (1, .int x1)]) : W p l e rm_Mat_latest s m args below meth c H locs 0 0 (MQ below (sQi (dC, dI) vwCl [(cB, .byte), (cI, .int), (cJ, .long)] A r_z (wd_Mat_latest mt la d ea cB cI cJ mc ms ml laf)) args s 0 0 A) (F0 m 0 ls []) := by
  obtain ⟨hx, hb, hml, hown, hts, hr, hlocks, hZ⟩ := id C
  unfold j_Mat_latest_0 at hf
  refine lv_iload_n hx hb d_Mat_latest_0 rfl (lv_at hl 1 rfl) ?_
  refine lv_if_lt (tgt := 22) hx hb d_Mat_latest_1 (by decide) (fun c_1 => ?_) (fun c_1 => ?_)
  · have hf := br_pos c_1 hf
    refine lv_iconst (v := -1) hx hb d_Mat_latest_22 (by decide) ?_
    cases hf
    exact s_iret hx hb hr hlocks hP hK hD hS d_Mat_latest_23
  · have hf := br_neg c_1 hf
    refine lv_iload_n hx hb d_Mat_latest_4 rfl (lv_at hl 1 rfl) ?_
    refine lv_aload_n hx hb d_Mat_latest_5 rfl (lv_at hl 0 rfl) ?_
    refine va_get (D := (dC, dI)) (ci := 3) (v := .ref la) (C := R_Mat) (T := T_Mat) (N := 6) hx hb hts w_52 hown hK hP 0 rfl rfl 1 (by decide) (hts _ w_53) (fun _ h9 => h9) rfl d_Mat_latest_6 ?_
    refine va_alen (v := (Int32.ofNat 4096)) hx hb hK hP 1 1 rfl rfl rfl d_Mat_latest_9 ?_
    refine lv_icmp_ge (tgt := 22) hx hb d_Mat_latest_10 (by decide) (fun c_10 => ?_) (fun c_10 => ?_)
    · have hf := br_pos c_10 hf
      refine lv_iconst (v := -1) hx hb d_Mat_latest_22 (by decide) ?_
      cases hf
      exact s_iret hx hb hr hlocks hP hK hD hS d_Mat_latest_23
    · have hf := br_neg c_10 hf
      refine lv_aload_n hx hb d_Mat_latest_13 rfl (lv_at hl 0 rfl) ?_
      refine va_get (D := (dC, dI)) (ci := 3) (v := .ref la) (C := R_Mat) (T := T_Mat) (N := 6) hx hb hts w_52 hown hK hP 0 rfl rfl 1 (by decide) (hts _ w_53) (fun _ h9 => h9) rfl d_Mat_latest_14 ?_
      refine lv_iload_n hx hb d_Mat_latest_17 rfl (lv_at hl 1 rfl) ?_
      obtain ⟨h_in, hf⟩ := as_some hf
      refine va_iald hx hb hK hP 1 1 rfl rfl h_in d_Mat_latest_18 ?_
      refine lv_goto (tgt := 23) hx hb d_Mat_latest_19 (by decide) ?_
      cases hf
      exact s_iret hx hb hr hlocks hP hK hD hS d_Mat_latest_23
end
noncomputable abbrev f_Mat_latest (x1 : Int32) (laf : Nat → Int32) : Option (Int32) := j_Mat_latest_0 x1 laf
set_option maxRecDepth 100000 in
theorem c_Mat_latest (l : Launch) (dC : Nat → ClassId) (dI : Nat → Nat → Nat) (cB cI cJ : ClassId) (mt la d ea : Nat) (mc : Int32) (ms : Int32) (ml : Int32) (laf : Nat → Int32) (x1 : Int32) {r_z : Int32} (hf : f_Mat_latest x1 laf = some r_z) : MetI l y_Mat_latest ws_Mat_latest rm_Mat_latest (dC, dI) vwCl [(cB, .byte), (cI, .int), (cJ, .long)] [.ref mt, .int x1] (wd_Mat_latest mt la d ea cB cI cJ mc ms ml laf) r_z (wd_Mat_latest mt la d ea cB cI cJ mc ms ml laf) 0 0 :=
  s_ofi (bytes := cd_Mat_latest) (maxL := 2) (ret := (some .int)) (by decide) rfl (Nat.le_of_ble_eq_true rfl) (fun p e s m below meth c A ls C hK hA hP hD hS hl => k_Mat_latest_0 C hK hA x1 mc ms ml laf hf hP hD hS (lv_sub hl [0, 1] rfl))

abbrev wd_Mat_setLatest (mt la d ea : Nat) (cB cI cJ : ClassId) (mc : Int32) (ms : Int32) (ml : Int32) (laf : Nat → Int32) : va_W := [(mt, .inr (3, [.ref d, .ref la, .ref ea, .int mc, .int ms, .int ml])), (la, .inl (cI, 4096, .inl laf))]
abbrev rm_Mat_setLatest : Room := { frames := 0, cells := 0, slots := 0, locals := 0 }
section
variable {p : Program} {l : Launch} {e : Env} {s : State} {m : MethodId} {args : Array Value} {below : List Frame} {meth : Method} {c : Code} {dC : Nat → ClassId} {dI : Nat → Nat → Nat} {A : Nat → Prop} {cB cI cJ : ClassId} {H : Heap} {locs : List Loc} {ls : Array Slot} {N : Nat} {mt la d ea : Nat}
noncomputable def j_Mat_setLatest_0 (x1 : Int32) (x2 : Int32) (laf : Nat → Int32)  : Option ((Nat → Int32)) :=
  (if x1 < 0 then (some laf : Option ((Nat → Int32))) else (if (Int32.ofNat 4096) ≤ x1 then (some laf : Option ((Nat → Int32))) else as_ (vp_in x1 4096) ((some (upd laf x1.toNatClampNeg x2) : Option ((Nat → Int32))))))
set_option maxHeartbeats 4000000 in
set_option maxRecDepth 100000 in
theorem k_Mat_setLatest_0 {laf_z : Nat → Int32} (C : Fx p s m args meth c cd_Mat_setLatest 3 R_Mat lw_g none) (hK : va_K (dC, dI) vwCl [(cB, .byte), (cI, .int), (cJ, .long)] s) (hA : ∀ q, s.heap.size ≤ q → A q) (x1 : Int32) (x2 : Int32) (mc : Int32) (ms : Int32) (ml : Int32) (laf : Nat → Int32)  (hf : j_Mat_setLatest_0 x1 x2 laf  = some laf_z) (hP : va_P (dC, dI) vwCl (wd_Mat_setLatest mt la d ea cB cI cJ mc ms ml laf) H) (hD : va_D A (wd_Mat_setLatest mt la d ea cB cI cJ mc ms ml laf)) (hS : va_S A s.heap H locs) (hl : lv_has ls 3 [(0, .ref mt), (1, .int x1), (2, .int x2)]) : W p l e rm_Mat_setLatest s m args below meth c H locs 0 0 (MQ below (sQv (dC, dI) vwCl [(cB, .byte), (cI, .int), (cJ, .long)] A (wd_Mat_setLatest mt la d ea cB cI cJ mc ms ml laf_z)) args s 0 0 A) (F0 m 0 ls []) := by
  obtain ⟨hx, hb, hml, hown, hts, hr, hlocks, hZ⟩ := id C
  unfold j_Mat_setLatest_0 at hf
  refine lv_iload_n hx hb d_Mat_setLatest_0 rfl (lv_at hl 1 rfl) ?_
  refine lv_if_lt (tgt := 20) hx hb d_Mat_setLatest_1 (by decide) (fun c_1 => ?_) (fun c_1 => ?_)
  · have hf := br_pos c_1 hf
    cases hf
    exact s_vret hx hb hr hlocks hP hK hD hS d_Mat_setLatest_20
  · have hf := br_neg c_1 hf
    refine lv_iload_n hx hb d_Mat_setLatest_4 rfl (lv_at hl 1 rfl) ?_
    refine lv_aload_n hx hb d_Mat_setLatest_5 rfl (lv_at hl 0 rfl) ?_
    refine va_get (D := (dC, dI)) (ci := 3) (v := .ref la) (C := R_Mat) (T := T_Mat) (N := 6) hx hb hts w_52 hown hK hP 0 rfl rfl 1 (by decide) (hts _ w_53) (fun _ h9 => h9) rfl d_Mat_setLatest_6 ?_
    refine va_alen (v := (Int32.ofNat 4096)) hx hb hK hP 1 1 rfl rfl rfl d_Mat_setLatest_9 ?_
    refine lv_icmp_ge (tgt := 20) hx hb d_Mat_setLatest_10 (by decide) (fun c_10 => ?_) (fun c_10 => ?_)
    · have hf := br_pos c_10 hf
      cases hf
      exact s_vret hx hb hr hlocks hP hK hD hS d_Mat_setLatest_20
    · have hf := br_neg c_10 hf
      refine lv_aload_n hx hb d_Mat_setLatest_13 rfl (lv_at hl 0 rfl) ?_
      refine va_get (D := (dC, dI)) (ci := 3) (v := .ref la) (C := R_Mat) (T := T_Mat) (N := 6) hx hb hts w_52 hown hK hP 0 rfl rfl 1 (by decide) (hts _ w_53) (fun _ h9 => h9) rfl d_Mat_setLatest_14 ?_
      refine lv_iload_n hx hb d_Mat_setLatest_17 rfl (lv_at hl 1 rfl) ?_
      refine lv_iload_n hx hb d_Mat_setLatest_18 rfl (lv_at hl 2 rfl) ?_
      obtain ⟨h_in, hf⟩ := as_some hf
      refine va_iast hx hb hK hP hD hS 1 1 rfl rfl h_in d_Mat_setLatest_19 (fun H locs hP hD hS => ?_)
      have hP : va_P (dC, dI) vwCl (wd_Mat_setLatest mt la d ea cB cI cJ mc ms ml (upd laf x1.toNatClampNeg x2)) H := hP
      have hD : va_D A (wd_Mat_setLatest mt la d ea cB cI cJ mc ms ml (upd laf x1.toNatClampNeg x2)) := hD
      cases hf
      exact s_vret hx hb hr hlocks hP hK hD hS d_Mat_setLatest_20
end
noncomputable abbrev f_Mat_setLatest (x1 : Int32) (x2 : Int32) (laf : Nat → Int32) : Option ((Nat → Int32)) := j_Mat_setLatest_0 x1 x2 laf
set_option maxRecDepth 100000 in
theorem c_Mat_setLatest (l : Launch) (dC : Nat → ClassId) (dI : Nat → Nat → Nat) (cB cI cJ : ClassId) (mt la d ea : Nat) (mc : Int32) (ms : Int32) (ml : Int32) (laf : Nat → Int32) (x1 : Int32) (x2 : Int32) {laf_z : Nat → Int32} (hf : f_Mat_setLatest x1 x2 laf = some laf_z) : MetV l y_Mat_setLatest ws_Mat_setLatest rm_Mat_setLatest (dC, dI) vwCl [(cB, .byte), (cI, .int), (cJ, .long)] [.ref mt, .int x1, .int x2] (wd_Mat_setLatest mt la d ea cB cI cJ mc ms ml laf)  (wd_Mat_setLatest mt la d ea cB cI cJ mc ms ml laf_z) 0 0 :=
  s_ofv (bytes := cd_Mat_setLatest) (maxL := 3) (ret := none) (by decide) rfl (Nat.le_of_ble_eq_true rfl) (fun p e s m below meth c A ls C hK hA hP hD hS hl => k_Mat_setLatest_0 C hK hA x1 x2 mc ms ml laf hf hP hD hS (lv_sub hl [0, 1, 2] rfl))

abbrev wd_Mat_slot (cB cI cJ : ClassId) : va_W := []
abbrev rm_Mat_slot : Room := { frames := 0, cells := 0, slots := 0, locals := 0 }
section
variable {p : Program} {l : Launch} {e : Env} {s : State} {m : MethodId} {args : Array Value} {below : List Frame} {meth : Method} {c : Code} {dC : Nat → ClassId} {dI : Nat → Nat → Nat} {A : Nat → Prop} {cB cI cJ : ClassId} {H : Heap} {locs : List Loc} {ls : Array Slot} {N : Nat} 
noncomputable def j_Mat_slot_0 (x0 : Int32)  : Option (Int32) :=
  (some (us32 (x0 * (-1640531535 : Int32)) (20 : Int32)) : Option (Int32))
set_option maxHeartbeats 4000000 in
set_option maxRecDepth 100000 in
theorem k_Mat_slot_0 {r_z : Int32} (C : Fx p s m args meth c cd_Mat_slot 1 R_Mat lw_g (some .int)) (hK : va_K (dC, dI) vwCl [(cB, .byte), (cI, .int), (cJ, .long)] s) (hA : ∀ q, s.heap.size ≤ q → A q) (x0 : Int32)  (hf : j_Mat_slot_0 x0  = some r_z) (hP : va_P (dC, dI) vwCl (wd_Mat_slot cB cI cJ) H) (hD : va_D A (wd_Mat_slot cB cI cJ)) (hS : va_S A s.heap H locs) (hl : lv_has ls 1 [(0, .int x0)]) : W p l e rm_Mat_slot s m args below meth c H locs 0 0 (MQ below (sQi (dC, dI) vwCl [(cB, .byte), (cI, .int), (cJ, .long)] A r_z (wd_Mat_slot cB cI cJ)) args s 0 0 A) (F0 m 0 ls []) := by
  obtain ⟨hx, hb, hml, hown, hts, hr, hlocks, hZ⟩ := id C
  unfold j_Mat_slot_0 at hf
  refine lv_iload_n hx hb d_Mat_slot_0 rfl (lv_at hl 0 rfl) ?_
  refine lv_ldc (v := -1640531535) hx hb hown (hts _ w_54) d_Mat_slot_1 ?_
  refine lv_imul hx hb d_Mat_slot_3 ?_
  refine lv_bipush (v := 20) hx hb d_Mat_slot_4 (by decide) ?_
  refine lv_iushr (v := (us32 (x0 * (-1640531535 : Int32)) (20 : Int32))) hx hb d_Mat_slot_6 rfl ?_
  cases hf
  exact s_iret hx hb hr hlocks hP hK hD hS d_Mat_slot_7
end
noncomputable abbrev f_Mat_slot (x0 : Int32) : Option (Int32) := j_Mat_slot_0 x0
set_option maxRecDepth 100000 in
theorem c_Mat_slot (l : Launch) (dC : Nat → ClassId) (dI : Nat → Nat → Nat) (cB cI cJ : ClassId)   (x0 : Int32) {r_z : Int32} (hf : f_Mat_slot x0 = some r_z) : MetI l y_Mat_slot ws_Mat_slot rm_Mat_slot (dC, dI) vwCl [(cB, .byte), (cI, .int), (cJ, .long)] [.int x0] (wd_Mat_slot cB cI cJ) r_z (wd_Mat_slot cB cI cJ) 0 0 :=
  s_ofi (bytes := cd_Mat_slot) (maxL := 1) (ret := (some .int)) (by decide) rfl (Nat.le_of_ble_eq_true rfl) (fun p e s m below meth c A ls C hK hA hP hD hS hl => k_Mat_slot_0 C hK hA x0 hf hP hD hS (lv_sub hl [0] rfl))

abbrev wd_Mat_chainBelow (mt d da la ea : Nat) (cB cI cJ : ClassId) (mc : Int32) (ms : Int32) (ml : Int32) (dn : Int32) (df : Nat → Int32) (laf : Nat → Int32) (eaf : Nat → Int32) : va_W := [(mt, .inr (3, [.ref d, .ref la, .ref ea, .int mc, .int ms, .int ml])), (d, .inr (1, [.ref da, .int dn])), (da, .inl (cB, 16000, .inl df)), (la, .inl (cI, 4096, .inl laf)), (ea, .inl (cI, 16000, .inl eaf))]
abbrev rm_Mat_chainBelow : Room := { frames := 1, cells := 0, slots := 0, locals := 22 }
section
variable {p : Program} {l : Launch} {e : Env} {s : State} {m : MethodId} {args : Array Value} {below : List Frame} {meth : Method} {c : Code} {dC : Nat → ClassId} {dI : Nat → Nat → Nat} {A : Nat → Prop} {cB cI cJ : ClassId} {H : Heap} {locs : List Loc} {ls : Array Slot} {N : Nat} {mt d da la ea : Nat}
noncomputable def b_Mat_chainBelow_0 (x1 : Int32) (dn : Int32) (df : Nat → Int32)  (kh0 : Int32 → (Nat → Int32) → (Nat → Int32) → Option (Int32 × (Nat → Int32) × (Nat → Int32))) (mc : Int32) (laf : Nat → Int32) (eaf : Nat → Int32) : Option (Int32 × (Nat → Int32) × (Nat → Int32)) :=
  (if x1 ≤ mc then (some (mc, laf, eaf) : Option (Int32 × (Nat → Int32) × (Nat → Int32))) else (if (Int32.ofNat 16000) ≤ mc then (some (mc, laf, eaf) : Option (Int32 × (Nat → Int32) × (Nat → Int32))) else bd1 (f_Row_word 16000 mc dn df) (fun r28 => bd1 (f_Mat_slot r28) (fun r31 => bd1 (f_Mat_latest r31 laf) (fun r45 => as_ (vp_in mc 16000) (bd1 (f_Mat_setLatest r31 mc laf) (fun laf_55 => (kh0 (mc + (1 : Int32)) laf_55 (upd eaf mc.toNatClampNeg r45)))))))))
set_option maxHeartbeats 4000000 in
set_option maxRecDepth 100000 in
theorem k_Mat_chainBelow_0 {mc_z : Int32} {laf_z : Nat → Int32} {eaf_z : Nat → Int32} (C : Fx p s m args meth c cd_Mat_chainBelow 3 R_Mat lw_g none) (hK : va_K (dC, dI) vwCl [(cB, .byte), (cI, .int), (cJ, .long)] s) (hA : ∀ q, s.heap.size ≤ q → A q) (x1 : Int32) (ms : Int32) (ml : Int32) (dn : Int32) (df : Nat → Int32)  : ∀ (n : Nat) (mc : Int32) (laf : Nat → Int32) (eaf : Nat → Int32), loop3 (b_Mat_chainBelow_0 x1 dn df ) n mc laf eaf = some (mc_z, laf_z, eaf_z) → ∀ (H : Heap) (locs : List Loc), va_P (dC, dI) vwCl (wd_Mat_chainBelow mt d da la ea cB cI cJ mc ms ml dn df laf eaf) H → va_D A (wd_Mat_chainBelow mt d da la ea cB cI cJ mc ms ml dn df laf eaf) → va_S A s.heap H locs → ∀ (ls : Array Slot), lv_has ls 3 [(0, .ref mt), (1, .int x1)] → W p l e rm_Mat_chainBelow s m args below meth c H locs 0 0 (MQ below (sQv (dC, dI) vwCl [(cB, .byte), (cI, .int), (cJ, .long)] A (wd_Mat_chainBelow mt d da la ea cB cI cJ mc_z ms ml dn df laf_z eaf_z)) args s 0 0 A) (F0 m 0 ls []) := by
  obtain ⟨hx, hb, hml, hown, hts, hr, hlocks, hZ⟩ := id C
  intro n
  induction n with
  | zero => intro mc laf eaf hf; cases hf
  | succ n ih0 =>
    intro mc laf eaf hf H locs hP hD hS ls hl
    have hf : b_Mat_chainBelow_0 x1 dn df  (loop3 (b_Mat_chainBelow_0 x1 dn df ) n) mc laf eaf = some (mc_z, laf_z, eaf_z) := hf
    generalize loop3 (b_Mat_chainBelow_0 x1 dn df ) n = kh0 at hf ih0
    unfold b_Mat_chainBelow_0 at hf
    refine lv_aload_n hx hb d_Mat_chainBelow_0 rfl (lv_at hl 0 rfl) ?_
    refine va_get (D := (dC, dI)) (ci := 3) (v := .int mc) (C := R_Mat) (T := T_Mat) (N := 6) hx hb hts w_52 hown hK hP 0 rfl rfl 3 (by decide) (hts _ w_55) (fun _ h9 => h9) rfl d_Mat_chainBelow_1 ?_
    refine lv_iload_n hx hb d_Mat_chainBelow_4 rfl (lv_at hl 1 rfl) ?_
    refine lv_icmp_ge (tgt := 71) hx hb d_Mat_chainBelow_5 (by decide) (fun c_5 => ?_) (fun c_5 => ?_)
    · have hf := br_pos c_5 hf
      cases hf
      exact s_vret hx hb hr hlocks hP hK hD hS d_Mat_chainBelow_71
    · have hf := br_neg c_5 hf
      refine lv_aload_n hx hb d_Mat_chainBelow_8 rfl (lv_at hl 0 rfl) ?_
      refine va_get (D := (dC, dI)) (ci := 3) (v := .int mc) (C := R_Mat) (T := T_Mat) (N := 6) hx hb hts w_52 hown hK hP 0 rfl rfl 3 (by decide) (hts _ w_55) (fun _ h9 => h9) rfl d_Mat_chainBelow_9 ?_
      refine lv_aload_n hx hb d_Mat_chainBelow_12 rfl (lv_at hl 0 rfl) ?_
      refine va_get (D := (dC, dI)) (ci := 3) (v := .ref ea) (C := R_Mat) (T := T_Mat) (N := 6) hx hb hts w_52 hown hK hP 0 rfl rfl 2 (by decide) (hts _ w_56) (fun _ h9 => h9) rfl d_Mat_chainBelow_13 ?_
      refine va_alen (v := (Int32.ofNat 16000)) hx hb hK hP 4 1 rfl rfl rfl d_Mat_chainBelow_16 ?_
      refine lv_icmp_ge (tgt := 71) hx hb d_Mat_chainBelow_17 (by decide) (fun c_17 => ?_) (fun c_17 => ?_)
      · have hf := br_pos c_17 hf
        cases hf
        exact s_vret hx hb hr hlocks hP hK hD hS d_Mat_chainBelow_71
      · have hf := br_neg c_17 hf
        refine lv_aload_n hx hb d_Mat_chainBelow_20 rfl (lv_at hl 0 rfl) ?_
        refine va_get (D := (dC, dI)) (ci := 3) (v := .ref d) (C := R_Mat) (T := T_Mat) (N := 6) hx hb hts w_52 hown hK hP 0 rfl rfl 0 (by decide) (hts _ w_57) (fun _ h9 => h9) rfl d_Mat_chainBelow_21 ?_
        refine lv_aload_n hx hb d_Mat_chainBelow_24 rfl (lv_at hl 0 rfl) ?_
        refine va_get (D := (dC, dI)) (ci := 3) (v := .int mc) (C := R_Mat) (T := T_Mat) (N := 6) hx hb hts w_52 hown hK hP 0 rfl rfl 3 (by decide) (hts _ w_55) (fun _ h9 => h9) rfl d_Mat_chainBelow_25 ?_
        obtain ⟨r28, hc28, hf⟩ := bd1_some hf
        refine s_Vi (As := [.int mc]) (rest := []) (wr := [(mt, .inr (3, [.ref d, .ref la, .ref ea, .int mc, .int ms, .int ml])), (la, .inl (cI, 4096, .inl laf)), (ea, .inl (cI, 16000, .inl eaf))]) (ws' := wd_Mat_chainBelow mt d da la ea cB cI cJ mc ms ml dn df laf eaf) C.call (c_Row_word l dC dI cB cI cJ d da 16000 dn df mc hc28) (cwV 1 hts (gd_V w_58 w_59 w_60 w_12 w_61) rfl rfl rfl ⟨rfl, hd_Row_word⟩ ⟨Nat.le_of_ble_eq_true rfl, Nat.le_of_ble_eq_true rfl⟩) rfl hl.1 rfl (Nat.le_of_ble_eq_true rfl) d_Mat_chainBelow_28 ⟨Nat.le_of_ble_eq_true rfl, Nat.le_of_ble_eq_true rfl⟩ hZ hK hP hD hS hA 1 1 rfl rfl [1, 2] [0, 3, 4] [0, 3, 4, 1, 2] rfl rfl rfl rfl (by decide) rfl rfl (fun H locs hP hD hS => ?_)
        obtain ⟨r31, hc31, hf⟩ := bd1_some hf
        refine s_Si (As := [.int r28]) (rest := []) (wr := [(mt, .inr (3, [.ref d, .ref la, .ref ea, .int mc, .int ms, .int ml])), (d, .inr (1, [.ref da, .int dn])), (da, .inl (cB, 16000, .inl df)), (la, .inl (cI, 4096, .inl laf)), (ea, .inl (cI, 16000, .inl eaf))]) (ws' := wd_Mat_chainBelow mt d da la ea cB cI cJ mc ms ml dn df laf eaf) C.call (c_Mat_slot l dC dI cB cI cJ    r28 hc31) (va_cwS 1 hts (gd_S w_62 w_63 w_64 w_65) rfl rfl rfl hd_Mat_slot ⟨Nat.le_of_ble_eq_true rfl, Nat.le_of_ble_eq_true rfl⟩) rfl hl.1 rfl (Nat.le_of_ble_eq_true rfl) d_Mat_chainBelow_31 ⟨Nat.le_of_ble_eq_true rfl, Nat.le_of_ble_eq_true rfl⟩ hZ hK hP hD hS hA [] [0, 1, 2, 3, 4] [0, 1, 2, 3, 4] rfl rfl rfl rfl (by decide) rfl rfl (fun H locs hP hD hS => ?_)
        refine lv_istore_n (lv' := [(2, .int r31), (0, .ref mt), (1, .int x1)]) hx hb d_Mat_chainBelow_34 rfl hl (by decide) rfl (fun ls hl => ?_)
        refine lv_aload_n hx hb d_Mat_chainBelow_35 rfl (lv_at hl 1 rfl) ?_
        refine va_get (D := (dC, dI)) (ci := 3) (v := .ref ea) (C := R_Mat) (T := T_Mat) (N := 6) hx hb hts w_52 hown hK hP 0 rfl rfl 2 (by decide) (hts _ w_56) (fun _ h9 => h9) rfl d_Mat_chainBelow_36 ?_
        refine lv_aload_n hx hb d_Mat_chainBelow_39 rfl (lv_at hl 1 rfl) ?_
        refine va_get (D := (dC, dI)) (ci := 3) (v := .int mc) (C := R_Mat) (T := T_Mat) (N := 6) hx hb hts w_52 hown hK hP 0 rfl rfl 3 (by decide) (hts _ w_55) (fun _ h9 => h9) rfl d_Mat_chainBelow_40 ?_
        refine lv_aload_n hx hb d_Mat_chainBelow_43 rfl (lv_at hl 1 rfl) ?_
        refine lv_iload_n hx hb d_Mat_chainBelow_44 rfl (lv_at hl 0 rfl) ?_
        obtain ⟨r45, hc45, hf⟩ := bd1_some hf
        refine s_Vi (As := [.int r31]) (rest := [.int mc, .ref ea]) (wr := [(d, .inr (1, [.ref da, .int dn])), (da, .inl (cB, 16000, .inl df)), (ea, .inl (cI, 16000, .inl eaf))]) (ws' := wd_Mat_chainBelow mt d da la ea cB cI cJ mc ms ml dn df laf eaf) C.call (c_Mat_latest l dC dI cB cI cJ mt la d ea  mc ms ml laf r31 hc45) (cwV 1 hts (gd_V w_66 w_67 w_68 w_64 w_69) rfl rfl rfl ⟨rfl, hd_Mat_latest⟩ ⟨Nat.le_of_ble_eq_true rfl, Nat.le_of_ble_eq_true rfl⟩) rfl hl.1 rfl (Nat.le_of_ble_eq_true rfl) d_Mat_chainBelow_45 ⟨Nat.le_of_ble_eq_true rfl, Nat.le_of_ble_eq_true rfl⟩ hZ hK hP hD hS hA 3 0 rfl rfl [0, 3] [1, 2, 4] [3, 0, 1, 4, 2] rfl rfl rfl rfl (by decide) rfl rfl (fun H locs hP hD hS => ?_)
        obtain ⟨h_in, hf⟩ := as_some hf
        refine va_iast hx hb hK hP hD hS 4 1 rfl rfl h_in d_Mat_chainBelow_48 (fun H locs hP hD hS => ?_)
        have hP : va_P (dC, dI) vwCl (wd_Mat_chainBelow mt d da la ea cB cI cJ mc ms ml dn df laf (upd eaf mc.toNatClampNeg r45)) H := hP
        have hD : va_D A (wd_Mat_chainBelow mt d da la ea cB cI cJ mc ms ml dn df laf (upd eaf mc.toNatClampNeg r45)) := hD
        refine lv_aload_n hx hb d_Mat_chainBelow_49 rfl (lv_at hl 1 rfl) ?_
        refine lv_iload_n hx hb d_Mat_chainBelow_50 rfl (lv_at hl 0 rfl) ?_
        refine lv_aload_n hx hb d_Mat_chainBelow_51 rfl (lv_at hl 1 rfl) ?_
        refine va_get (D := (dC, dI)) (ci := 3) (v := .int mc) (C := R_Mat) (T := T_Mat) (N := 6) hx hb hts w_52 hown hK hP 0 rfl rfl 3 (by decide) (hts _ w_55) (fun _ h9 => h9) rfl d_Mat_chainBelow_52 ?_
        obtain ⟨laf_55, hc55, hf⟩ := bd1_some hf
        refine s_Vv (As := [.int r31, .int mc]) (rest := []) (wr := [(d, .inr (1, [.ref da, .int dn])), (da, .inl (cB, 16000, .inl df)), (ea, .inl (cI, 16000, .inl (upd eaf mc.toNatClampNeg r45)))]) (ws' := wd_Mat_chainBelow mt d da la ea cB cI cJ mc ms ml dn df laf_55 (upd eaf mc.toNatClampNeg r45)) C.call (c_Mat_setLatest l dC dI cB cI cJ mt la d ea  mc ms ml laf r31 mc hc55) (cwV 2 hts (gd_V w_70 w_71 w_72 w_64 w_73) rfl rfl rfl ⟨rfl, hd_Mat_setLatest⟩ ⟨Nat.le_of_ble_eq_true rfl, Nat.le_of_ble_eq_true rfl⟩) rfl hl.1 rfl (Nat.le_of_ble_eq_true rfl) d_Mat_chainBelow_55 ⟨Nat.le_of_ble_eq_true rfl, Nat.le_of_ble_eq_true rfl⟩ hZ hK hP hD hS hA 3 0 rfl rfl [0, 3] [1, 2, 4] [3, 0, 1, 4, 2] rfl rfl rfl rfl (by decide) rfl rfl (fun H locs hP hD hS => ?_)
        refine lv_aload_n hx hb d_Mat_chainBelow_58 rfl (lv_at hl 1 rfl) ?_
        refine lv_dup hx hb d_Mat_chainBelow_59 rfl ?_
        refine va_get (D := (dC, dI)) (ci := 3) (v := .int mc) (C := R_Mat) (T := T_Mat) (N := 6) hx hb hts w_52 hown hK hP 0 rfl rfl 3 (by decide) (hts _ w_55) (fun _ h9 => h9) rfl d_Mat_chainBelow_60 ?_
        refine lv_iconst (v := 1) hx hb d_Mat_chainBelow_63 (by decide) ?_
        refine lv_iadd hx hb d_Mat_chainBelow_64 ?_
        refine va_put (D := (dC, dI)) (ci := 3) (v := .int (mc + (1 : Int32))) (ty := .int) (C := R_Mat) (T := T_Mat) (N := 6) hx hb hts w_52 ty_Mat ty_Mat_ok nm_Mat hown hK hP hD hS 0 rfl rfl 3 (by decide) (hts _ w_55) (fun _ h9 => h9) rfl (by decide +kernel) rfl rfl (Nat.le_of_ble_eq_true rfl) d_Mat_chainBelow_65 (fun H locs hP hD hS => ?_)
        have hP : va_P (dC, dI) vwCl (wd_Mat_chainBelow mt d da la ea cB cI cJ (mc + (1 : Int32)) ms ml dn df laf_55 (upd eaf mc.toNatClampNeg r45)) H := hP
        have hD : va_D A (wd_Mat_chainBelow mt d da la ea cB cI cJ (mc + (1 : Int32)) ms ml dn df laf_55 (upd eaf mc.toNatClampNeg r45)) := hD
        refine lv_goto (tgt := 0) hx hb d_Mat_chainBelow_68 (by decide) ?_
        exact ih0 (mc + (1 : Int32)) laf_55 (upd eaf mc.toNatClampNeg r45) hf _ _ hP hD hS _ (lv_sub hl [1, 2] rfl)
end
noncomputable abbrev f_Mat_chainBelow (N : Nat) (x1 : Int32) (dn : Int32) (df : Nat → Int32) (mc : Int32) (laf : Nat → Int32) (eaf : Nat → Int32) : Option (Int32 × (Nat → Int32) × (Nat → Int32)) := loop3 (b_Mat_chainBelow_0 x1 dn df) N mc laf eaf
set_option maxRecDepth 100000 in
theorem c_Mat_chainBelow {N : Nat} (l : Launch) (dC : Nat → ClassId) (dI : Nat → Nat → Nat) (cB cI cJ : ClassId) (mt d da la ea : Nat) (mc : Int32) (ms : Int32) (ml : Int32) (dn : Int32) (df : Nat → Int32) (laf : Nat → Int32) (eaf : Nat → Int32) (x1 : Int32) {mc_z : Int32} {laf_z : Nat → Int32} {eaf_z : Nat → Int32} (hf : f_Mat_chainBelow N x1 dn df mc laf eaf = some (mc_z, laf_z, eaf_z)) : MetV l y_Mat_chainBelow ws_Mat_chainBelow rm_Mat_chainBelow (dC, dI) vwCl [(cB, .byte), (cI, .int), (cJ, .long)] [.ref mt, .int x1] (wd_Mat_chainBelow mt d da la ea cB cI cJ mc ms ml dn df laf eaf)  (wd_Mat_chainBelow mt d da la ea cB cI cJ mc_z ms ml dn df laf_z eaf_z) 0 0 :=
  s_ofv (bytes := cd_Mat_chainBelow) (maxL := 3) (ret := none) (by decide) rfl (Nat.le_of_ble_eq_true rfl) (fun p e s m below meth c A ls C hK hA hP hD hS hl => k_Mat_chainBelow_0 C hK hA x1 ms ml dn df N mc laf eaf hf _ _ hP hD hS _ (lv_sub hl [0, 1] rfl))

abbrev wd_Mat_enough (cB cI cJ : ClassId) : va_W := []
abbrev rm_Mat_enough : Room := { frames := 0, cells := 0, slots := 0, locals := 0 }
section
variable {p : Program} {l : Launch} {e : Env} {s : State} {m : MethodId} {args : Array Value} {below : List Frame} {meth : Method} {c : Code} {dC : Nat → ClassId} {dI : Nat → Nat → Nat} {A : Nat → Prop} {cB cI cJ : ClassId} {H : Heap} {locs : List Loc} {ls : Array Slot} {N : Nat} 
noncomputable def j_Mat_enough_0 (x0 : Int32) (x1 : Int32)  : Option (Int32) :=
  (if x1 < (2 : Int32) then (if x1 = (1 : Int32) then (if x0 < (8 : Int32) then (some (4 : Int32) : Option (Int32)) else (some (8 : Int32) : Option (Int32))) else (some (4 : Int32) : Option (Int32))) else (some x0 : Option (Int32)))
set_option maxHeartbeats 4000000 in
set_option maxRecDepth 100000 in
theorem k_Mat_enough_0 {r_z : Int32} (C : Fx p s m args meth c cd_Mat_enough 2 R_Mat lw_g (some .int)) (hK : va_K (dC, dI) vwCl [(cB, .byte), (cI, .int), (cJ, .long)] s) (hA : ∀ q, s.heap.size ≤ q → A q) (x0 : Int32) (x1 : Int32)  (hf : j_Mat_enough_0 x0 x1  = some r_z) (hP : va_P (dC, dI) vwCl (wd_Mat_enough cB cI cJ) H) (hD : va_D A (wd_Mat_enough cB cI cJ)) (hS : va_S A s.heap H locs) (hl : lv_has ls 2 [(0, .int x0), (1, .int x1)]) : W p l e rm_Mat_enough s m args below meth c H locs 0 0 (MQ below (sQi (dC, dI) vwCl [(cB, .byte), (cI, .int), (cJ, .long)] A r_z (wd_Mat_enough cB cI cJ)) args s 0 0 A) (F0 m 0 ls []) := by
  obtain ⟨hx, hb, hml, hown, hts, hr, hlocks, hZ⟩ := id C
  unfold j_Mat_enough_0 at hf
  refine lv_iload_n hx hb d_Mat_enough_0 rfl (lv_at hl 1 rfl) ?_
  refine lv_iconst (v := 2) hx hb d_Mat_enough_1 (by decide) ?_
  refine lv_icmp_lt (tgt := 7) hx hb d_Mat_enough_2 (by decide) (fun c_2 => ?_) (fun c_2 => ?_)
  · have hf := br_pos c_2 hf
    refine lv_iload_n hx hb d_Mat_enough_7 rfl (lv_at hl 1 rfl) ?_
    refine lv_iconst (v := 1) hx hb d_Mat_enough_8 (by decide) ?_
    refine lv_icmp_ne (tgt := 23) hx hb d_Mat_enough_9 (by decide) (fun c_9 => ?_) (fun c_9 => ?_)
    · have hf := br_neg c_9 hf
      refine lv_iconst (v := 4) hx hb d_Mat_enough_23 (by decide) ?_
      cases hf
      exact s_iret hx hb hr hlocks hP hK hD hS d_Mat_enough_24
    · have hf := br_pos c_9 hf
      refine lv_iload_n hx hb d_Mat_enough_12 rfl (lv_at hl 0 rfl) ?_
      refine lv_bipush (v := 8) hx hb d_Mat_enough_13 (by decide) ?_
      refine lv_icmp_lt (tgt := 23) hx hb d_Mat_enough_15 (by decide) (fun c_15 => ?_) (fun c_15 => ?_)
      · have hf := br_pos c_15 hf
        refine lv_iconst (v := 4) hx hb d_Mat_enough_23 (by decide) ?_
        cases hf
        exact s_iret hx hb hr hlocks hP hK hD hS d_Mat_enough_24
      · have hf := br_neg c_15 hf
        refine lv_bipush (v := 8) hx hb d_Mat_enough_18 (by decide) ?_
        refine lv_goto (tgt := 24) hx hb d_Mat_enough_20 (by decide) ?_
        cases hf
        exact s_iret hx hb hr hlocks hP hK hD hS d_Mat_enough_24
  · have hf := br_neg c_2 hf
    refine lv_iload_n hx hb d_Mat_enough_5 rfl (lv_at hl 0 rfl) ?_
    cases hf
    exact s_iret hx hb hr hlocks hP hK hD hS d_Mat_enough_6
end
noncomputable abbrev f_Mat_enough (x0 : Int32) (x1 : Int32) : Option (Int32) := j_Mat_enough_0 x0 x1
set_option maxRecDepth 100000 in
theorem c_Mat_enough (l : Launch) (dC : Nat → ClassId) (dI : Nat → Nat → Nat) (cB cI cJ : ClassId)   (x0 : Int32) (x1 : Int32) {r_z : Int32} (hf : f_Mat_enough x0 x1 = some r_z) : MetI l y_Mat_enough ws_Mat_enough rm_Mat_enough (dC, dI) vwCl [(cB, .byte), (cI, .int), (cJ, .long)] [.int x0, .int x1] (wd_Mat_enough cB cI cJ) r_z (wd_Mat_enough cB cI cJ) 0 0 :=
  s_ofi (bytes := cd_Mat_enough) (maxL := 2) (ret := (some .int)) (by decide) rfl (Nat.le_of_ble_eq_true rfl) (fun p e s m below meth c A ls C hK hA hP hD hS hl => k_Mat_enough_0 C hK hA x0 x1 hf hP hD hS (lv_sub hl [0, 1] rfl))

abbrev wd_Mat_hold (mt d la ea : Nat) (cB cI cJ : ClassId) (mc : Int32) (ms : Int32) (ml : Int32) : va_W := [(mt, .inr (3, [.ref d, .ref la, .ref ea, .int mc, .int ms, .int ml]))]
abbrev rm_Mat_hold : Room := { frames := 0, cells := 0, slots := 0, locals := 0 }
section
variable {p : Program} {l : Launch} {e : Env} {s : State} {m : MethodId} {args : Array Value} {below : List Frame} {meth : Method} {c : Code} {dC : Nat → ClassId} {dI : Nat → Nat → Nat} {A : Nat → Prop} {cB cI cJ : ClassId} {H : Heap} {locs : List Loc} {ls : Array Slot} {N : Nat} {mt d la ea : Nat}
noncomputable def j_Mat_hold_31 (x1 : Int32) (x2 : Int32) (t0 : Int32) (ms : Int32) (ml : Int32)  : Option (Int32 × Int32) :=
  (if x2 < (4 : Int32) then (some (ms, ml) : Option (Int32 × Int32)) else (if t0 = 0 then (some (ms, ml) : Option (Int32 × Int32)) else (some (x1, x2) : Option (Int32 × Int32))))
set_option maxHeartbeats 4000000 in
set_option maxRecDepth 100000 in
theorem k_Mat_hold_31 {ms_z : Int32} {ml_z : Int32} (C : Fx p s m args meth c cd_Mat_hold 6 R_Mat lw_g none) (hK : va_K (dC, dI) vwCl [(cB, .byte), (cI, .int), (cJ, .long)] s) (hA : ∀ q, s.heap.size ≤ q → A q) (x1 : Int32) (x2 : Int32) (t0 : Int32) (mc : Int32) (ms : Int32) (ml : Int32)  (hf : j_Mat_hold_31 x1 x2 t0 ms ml  = some (ms_z, ml_z)) (hP : va_P (dC, dI) vwCl (wd_Mat_hold mt d la ea cB cI cJ mc ms ml) H) (hD : va_D A (wd_Mat_hold mt d la ea cB cI cJ mc ms ml)) (hS : va_S A s.heap H locs) (hl : lv_has ls 6 [(0, .ref mt), (1, .int x1), (2, .int x2)]) : W p l e rm_Mat_hold s m args below meth c H locs 0 0 (MQ below (sQv (dC, dI) vwCl [(cB, .byte), (cI, .int), (cJ, .long)] A (wd_Mat_hold mt d la ea cB cI cJ mc ms_z ml_z)) args s 0 0 A) (F0 m 31 ls [.int t0]) := by
  obtain ⟨hx, hb, hml, hown, hts, hr, hlocks, hZ⟩ := id C
  unfold j_Mat_hold_31 at hf
  refine lv_istore (lv' := [(5, .int t0), (0, .ref mt), (1, .int x1), (2, .int x2)]) hx hb d_Mat_hold_31 hl (by decide) rfl (fun ls hl => ?_)
  refine lv_iload_n hx hb d_Mat_hold_33 rfl (lv_at hl 3 rfl) ?_
  refine lv_iconst (v := 4) hx hb d_Mat_hold_34 (by decide) ?_
  refine lv_icmp_lt (tgt := 53) hx hb d_Mat_hold_35 (by decide) (fun c_35 => ?_) (fun c_35 => ?_)
  · have hf := br_pos c_35 hf
    cases hf
    exact s_vret hx hb hr hlocks hP hK hD hS d_Mat_hold_53
  · have hf := br_neg c_35 hf
    refine lv_iload hx hb d_Mat_hold_38 (lv_at hl 0 rfl) ?_
    refine lv_if_eq (tgt := 53) hx hb d_Mat_hold_40 (by decide) (fun c_40 => ?_) (fun c_40 => ?_)
    · have hf := br_pos c_40 hf
      cases hf
      exact s_vret hx hb hr hlocks hP hK hD hS d_Mat_hold_53
    · have hf := br_neg c_40 hf
      refine lv_aload_n hx hb d_Mat_hold_43 rfl (lv_at hl 1 rfl) ?_
      refine lv_iload_n hx hb d_Mat_hold_44 rfl (lv_at hl 2 rfl) ?_
      refine va_put (D := (dC, dI)) (ci := 3) (v := .int x1) (ty := .int) (C := R_Mat) (T := T_Mat) (N := 6) hx hb hts w_52 ty_Mat ty_Mat_ok nm_Mat hown hK hP hD hS 0 rfl rfl 4 (by decide) (hts _ w_75) (fun _ h9 => h9) rfl (by decide +kernel) rfl rfl (Nat.le_of_ble_eq_true rfl) d_Mat_hold_45 (fun H locs hP hD hS => ?_)
      have hP : va_P (dC, dI) vwCl (wd_Mat_hold mt d la ea cB cI cJ mc x1 ml) H := hP
      have hD : va_D A (wd_Mat_hold mt d la ea cB cI cJ mc x1 ml) := hD
      refine lv_aload_n hx hb d_Mat_hold_48 rfl (lv_at hl 1 rfl) ?_
      refine lv_iload_n hx hb d_Mat_hold_49 rfl (lv_at hl 3 rfl) ?_
      refine va_put (D := (dC, dI)) (ci := 3) (v := .int x2) (ty := .int) (C := R_Mat) (T := T_Mat) (N := 6) hx hb hts w_52 ty_Mat ty_Mat_ok nm_Mat hown hK hP hD hS 0 rfl rfl 5 (by decide) (hts _ w_74) (fun _ h9 => h9) rfl (by decide +kernel) rfl rfl (Nat.le_of_ble_eq_true rfl) d_Mat_hold_50 (fun H locs hP hD hS => ?_)
      have hP : va_P (dC, dI) vwCl (wd_Mat_hold mt d la ea cB cI cJ mc x1 x2) H := hP
      have hD : va_D A (wd_Mat_hold mt d la ea cB cI cJ mc x1 x2) := hD
      cases hf
      exact s_vret hx hb hr hlocks hP hK hD hS d_Mat_hold_53
noncomputable def j_Mat_hold_26 (x1 : Int32) (x2 : Int32) (ms : Int32) (ml : Int32)  : Option (Int32 × Int32) :=
  (j_Mat_hold_31 x1 x2 (1 : Int32) ms ml )
set_option maxHeartbeats 4000000 in
set_option maxRecDepth 100000 in
theorem k_Mat_hold_26 {ms_z : Int32} {ml_z : Int32} (C : Fx p s m args meth c cd_Mat_hold 6 R_Mat lw_g none) (hK : va_K (dC, dI) vwCl [(cB, .byte), (cI, .int), (cJ, .long)] s) (hA : ∀ q, s.heap.size ≤ q → A q) (x1 : Int32) (x2 : Int32) (mc : Int32) (ms : Int32) (ml : Int32)  (hf : j_Mat_hold_26 x1 x2 ms ml  = some (ms_z, ml_z)) (hP : va_P (dC, dI) vwCl (wd_Mat_hold mt d la ea cB cI cJ mc ms ml) H) (hD : va_D A (wd_Mat_hold mt d la ea cB cI cJ mc ms ml)) (hS : va_S A s.heap H locs) (hl : lv_has ls 6 [(0, .ref mt), (1, .int x1), (2, .int x2)]) : W p l e rm_Mat_hold s m args below meth c H locs 0 0 (MQ below (sQv (dC, dI) vwCl [(cB, .byte), (cI, .int), (cJ, .long)] A (wd_Mat_hold mt d la ea cB cI cJ mc ms_z ml_z)) args s 0 0 A) (F0 m 26 ls []) := by
  obtain ⟨hx, hb, hml, hown, hts, hr, hlocks, hZ⟩ := id C
  unfold j_Mat_hold_26 at hf
  refine lv_iconst (v := 1) hx hb d_Mat_hold_26 (by decide) ?_
  refine lv_goto (tgt := 31) hx hb d_Mat_hold_27 (by decide) ?_
  exact k_Mat_hold_31 C hK hA x1 x2 (1 : Int32) mc ms ml  hf hP hD hS (lv_sub hl [0, 1, 2] rfl)
noncomputable def j_Mat_hold_30 (x1 : Int32) (x2 : Int32) (ms : Int32) (ml : Int32)  : Option (Int32 × Int32) :=
  (j_Mat_hold_31 x1 x2 (0 : Int32) ms ml )
set_option maxHeartbeats 4000000 in
set_option maxRecDepth 100000 in
theorem k_Mat_hold_30 {ms_z : Int32} {ml_z : Int32} (C : Fx p s m args meth c cd_Mat_hold 6 R_Mat lw_g none) (hK : va_K (dC, dI) vwCl [(cB, .byte), (cI, .int), (cJ, .long)] s) (hA : ∀ q, s.heap.size ≤ q → A q) (x1 : Int32) (x2 : Int32) (mc : Int32) (ms : Int32) (ml : Int32)  (hf : j_Mat_hold_30 x1 x2 ms ml  = some (ms_z, ml_z)) (hP : va_P (dC, dI) vwCl (wd_Mat_hold mt d la ea cB cI cJ mc ms ml) H) (hD : va_D A (wd_Mat_hold mt d la ea cB cI cJ mc ms ml)) (hS : va_S A s.heap H locs) (hl : lv_has ls 6 [(0, .ref mt), (1, .int x1), (2, .int x2)]) : W p l e rm_Mat_hold s m args below meth c H locs 0 0 (MQ below (sQv (dC, dI) vwCl [(cB, .byte), (cI, .int), (cJ, .long)] A (wd_Mat_hold mt d la ea cB cI cJ mc ms_z ml_z)) args s 0 0 A) (F0 m 30 ls []) := by
  obtain ⟨hx, hb, hml, hown, hts, hr, hlocks, hZ⟩ := id C
  unfold j_Mat_hold_30 at hf
  refine lv_iconst (v := 0) hx hb d_Mat_hold_30 (by decide) ?_
  exact k_Mat_hold_31 C hK hA x1 x2 (0 : Int32) mc ms ml  hf hP hD hS (lv_sub hl [0, 1, 2] rfl)
noncomputable def j_Mat_hold_0 (x1 : Int32) (x2 : Int32) (x3 : Int32) (x4 : Int32) (ms : Int32) (ml : Int32)  : Option (Int32 × Int32) :=
  (if ml = 0 then (j_Mat_hold_26 x1 x2 ms ml ) else (if x3 ≤ x2 then (j_Mat_hold_26 x1 x2 ms ml ) else (if x4 < (2 : Int32) then (j_Mat_hold_30 x1 x2 ms ml ) else (if x2 ≤ ml then (j_Mat_hold_30 x1 x2 ms ml ) else (j_Mat_hold_26 x1 x2 ms ml )))))
set_option maxHeartbeats 4000000 in
set_option maxRecDepth 100000 in
theorem k_Mat_hold_0 {ms_z : Int32} {ml_z : Int32} (C : Fx p s m args meth c cd_Mat_hold 6 R_Mat lw_g none) (hK : va_K (dC, dI) vwCl [(cB, .byte), (cI, .int), (cJ, .long)] s) (hA : ∀ q, s.heap.size ≤ q → A q) (x1 : Int32) (x2 : Int32) (x3 : Int32) (x4 : Int32) (mc : Int32) (ms : Int32) (ml : Int32)  (hf : j_Mat_hold_0 x1 x2 x3 x4 ms ml  = some (ms_z, ml_z)) (hP : va_P (dC, dI) vwCl (wd_Mat_hold mt d la ea cB cI cJ mc ms ml) H) (hD : va_D A (wd_Mat_hold mt d la ea cB cI cJ mc ms ml)) (hS : va_S A s.heap H locs) (hl : lv_has ls 6 [(0, .ref mt), (1, .int x1), (2, .int x2), (3, .int x3), (4, .int x4)]) : W p l e rm_Mat_hold s m args below meth c H locs 0 0 (MQ below (sQv (dC, dI) vwCl [(cB, .byte), (cI, .int), (cJ, .long)] A (wd_Mat_hold mt d la ea cB cI cJ mc ms_z ml_z)) args s 0 0 A) (F0 m 0 ls []) := by
  obtain ⟨hx, hb, hml, hown, hts, hr, hlocks, hZ⟩ := id C
  unfold j_Mat_hold_0 at hf
  refine lv_aload_n hx hb d_Mat_hold_0 rfl (lv_at hl 0 rfl) ?_
  refine va_get (D := (dC, dI)) (ci := 3) (v := .int ml) (C := R_Mat) (T := T_Mat) (N := 6) hx hb hts w_52 hown hK hP 0 rfl rfl 5 (by decide) (hts _ w_74) (fun _ h9 => h9) rfl d_Mat_hold_1 ?_
  refine lv_if_eq (tgt := 26) hx hb d_Mat_hold_4 (by decide) (fun c_4 => ?_) (fun c_4 => ?_)
  · have hf := br_pos c_4 hf
    exact k_Mat_hold_26 C hK hA x1 x2 mc ms ml  hf hP hD hS (lv_sub hl [0, 1, 2] rfl)
  · have hf := br_neg c_4 hf
    refine lv_iload_n hx hb d_Mat_hold_7 rfl (lv_at hl 2 rfl) ?_
    refine lv_iload_n hx hb d_Mat_hold_8 rfl (lv_at hl 3 rfl) ?_
    refine lv_icmp_ge (tgt := 26) hx hb d_Mat_hold_9 (by decide) (fun c_9 => ?_) (fun c_9 => ?_)
    · have hf := br_pos c_9 hf
      exact k_Mat_hold_26 C hK hA x1 x2 mc ms ml  hf hP hD hS (lv_sub hl [0, 1, 2] rfl)
    · have hf := br_neg c_9 hf
      refine lv_iload hx hb d_Mat_hold_12 (lv_at hl 4 rfl) ?_
      refine lv_iconst (v := 2) hx hb d_Mat_hold_14 (by decide) ?_
      refine lv_icmp_lt (tgt := 30) hx hb d_Mat_hold_15 (by decide) (fun c_15 => ?_) (fun c_15 => ?_)
      · have hf := br_pos c_15 hf
        exact k_Mat_hold_30 C hK hA x1 x2 mc ms ml  hf hP hD hS (lv_sub hl [0, 1, 2] rfl)
      · have hf := br_neg c_15 hf
        refine lv_iload_n hx hb d_Mat_hold_18 rfl (lv_at hl 2 rfl) ?_
        refine lv_aload_n hx hb d_Mat_hold_19 rfl (lv_at hl 0 rfl) ?_
        refine va_get (D := (dC, dI)) (ci := 3) (v := .int ml) (C := R_Mat) (T := T_Mat) (N := 6) hx hb hts w_52 hown hK hP 0 rfl rfl 5 (by decide) (hts _ w_74) (fun _ h9 => h9) rfl d_Mat_hold_20 ?_
        refine lv_icmp_le (tgt := 30) hx hb d_Mat_hold_23 (by decide) (fun c_23 => ?_) (fun c_23 => ?_)
        · have hf := br_pos c_23 hf
          exact k_Mat_hold_30 C hK hA x1 x2 mc ms ml  hf hP hD hS (lv_sub hl [0, 1, 2] rfl)
        · have hf := br_neg c_23 hf
          exact k_Mat_hold_26 C hK hA x1 x2 mc ms ml  hf hP hD hS (lv_sub hl [0, 1, 2] rfl)
end
noncomputable abbrev f_Mat_hold (x1 : Int32) (x2 : Int32) (x3 : Int32) (x4 : Int32) (ms : Int32) (ml : Int32) : Option (Int32 × Int32) := j_Mat_hold_0 x1 x2 x3 x4 ms ml
set_option maxRecDepth 100000 in
theorem c_Mat_hold (l : Launch) (dC : Nat → ClassId) (dI : Nat → Nat → Nat) (cB cI cJ : ClassId) (mt d la ea : Nat) (mc : Int32) (ms : Int32) (ml : Int32) (x1 : Int32) (x2 : Int32) (x3 : Int32) (x4 : Int32) {ms_z : Int32} {ml_z : Int32} (hf : f_Mat_hold x1 x2 x3 x4 ms ml = some (ms_z, ml_z)) : MetV l y_Mat_hold ws_Mat_hold rm_Mat_hold (dC, dI) vwCl [(cB, .byte), (cI, .int), (cJ, .long)] [.ref mt, .int x1, .int x2, .int x3, .int x4] (wd_Mat_hold mt d la ea cB cI cJ mc ms ml)  (wd_Mat_hold mt d la ea cB cI cJ mc ms_z ml_z) 0 0 :=
  s_ofv (bytes := cd_Mat_hold) (maxL := 6) (ret := none) (by decide) rfl (Nat.le_of_ble_eq_true rfl) (fun p e s m below meth c A ls C hK hA hP hD hS hl => k_Mat_hold_0 C hK hA x1 x2 x3 x4 mc ms ml hf hP hD hS (lv_sub hl [0, 1, 2, 3, 4] rfl))

abbrev wd_Mat_find (mt d da la ea : Nat) (cB cI cJ : ClassId) (mc : Int32) (ms : Int32) (ml : Int32) (dn : Int32) (df : Nat → Int32) (laf : Nat → Int32) (eaf : Nat → Int32) : va_W := [(mt, .inr (3, [.ref d, .ref la, .ref ea, .int mc, .int ms, .int ml])), (d, .inr (1, [.ref da, .int dn])), (da, .inl (cB, 16000, .inl df)), (la, .inl (cI, 4096, .inl laf)), (ea, .inl (cI, 16000, .inl eaf))]
abbrev rm_Mat_find : Room := { frames := 2, cells := 0, slots := 0, locals := 38 }
section
variable {p : Program} {l : Launch} {e : Env} {s : State} {m : MethodId} {args : Array Value} {below : List Frame} {meth : Method} {c : Code} {dC : Nat → ClassId} {dI : Nat → Nat → Nat} {A : Nat → Prop} {cB cI cJ : ClassId} {H : Heap} {locs : List Loc} {ls : Array Slot} {N : Nat} {mt d da la ea : Nat}
noncomputable def j_Mat_find_110 (x4 : Int32) (x5 : Int32) (x6 : Int32) (ms : Int32) (ml : Int32) (eaf : Nat → Int32) (kh39 : Int32 → Int32 → Int32 → Int32 → Option (Int32 × Int32)) : Option (Int32 × Int32) :=
  (if ml < x4 then as_ (vp_in x5 16000) ((kh39 (eaf x5.toNatClampNeg) (x6 + 1) ms ml)) else (some (ms, ml) : Option (Int32 × Int32)))
set_option maxHeartbeats 4000000 in
set_option maxRecDepth 100000 in
theorem k_Mat_find_110 {ms_z : Int32} {ml_z : Int32} (C : Fx p s m args meth c cd_Mat_find 7 R_Mat lw_g none) (hK : va_K (dC, dI) vwCl [(cB, .byte), (cI, .int), (cJ, .long)] s) (hA : ∀ q, s.heap.size ≤ q → A q) (x1 : Int32) (x2 : Int32) (x3 : Int32) (x4 : Int32) (x5 : Int32) (x6 : Int32) (mc : Int32) (ms : Int32) (ml : Int32) (dn : Int32) (df : Nat → Int32) (laf : Nat → Int32) (eaf : Nat → Int32) (kh39 : Int32 → Int32 → Int32 → Int32 → Option (Int32 × Int32)) (ih39 : ∀ (x5 : Int32) (x6 : Int32) (ms : Int32) (ml : Int32), kh39 x5 x6 ms ml = some (ms_z, ml_z) → ∀ (H : Heap) (locs : List Loc), va_P (dC, dI) vwCl (wd_Mat_find mt d da la ea cB cI cJ mc ms ml dn df laf eaf) H → va_D A (wd_Mat_find mt d da la ea cB cI cJ mc ms ml dn df laf eaf) → va_S A s.heap H locs → ∀ (ls : Array Slot), lv_has ls 7 [(0, .ref mt), (1, .int x1), (2, .int x2), (3, .int x3), (4, .int x4), (5, .int x5), (6, .int x6)] → W p l e rm_Mat_find s m args below meth c H locs 0 0 (MQ below (sQv (dC, dI) vwCl [(cB, .byte), (cI, .int), (cJ, .long)] A (wd_Mat_find mt d da la ea cB cI cJ mc ms_z ml_z dn df laf eaf)) args s 0 0 A) (F0 m 39 ls [])) (hf : j_Mat_find_110 x4 x5 x6 ms ml eaf kh39 = some (ms_z, ml_z)) (hP : va_P (dC, dI) vwCl (wd_Mat_find mt d da la ea cB cI cJ mc ms ml dn df laf eaf) H) (hD : va_D A (wd_Mat_find mt d da la ea cB cI cJ mc ms ml dn df laf eaf)) (hS : va_S A s.heap H locs) (hl : lv_has ls 7 [(0, .ref mt), (1, .int x1), (2, .int x2), (3, .int x3), (4, .int x4), (5, .int x5), (6, .int x6)]) : W p l e rm_Mat_find s m args below meth c H locs 0 0 (MQ below (sQv (dC, dI) vwCl [(cB, .byte), (cI, .int), (cJ, .long)] A (wd_Mat_find mt d da la ea cB cI cJ mc ms_z ml_z dn df laf eaf)) args s 0 0 A) (F0 m 110 ls []) := by
  obtain ⟨hx, hb, hml, hown, hts, hr, hlocks, hZ⟩ := id C
  unfold j_Mat_find_110 at hf
  refine lv_aload_n hx hb d_Mat_find_110 rfl (lv_at hl 0 rfl) ?_
  refine va_get (D := (dC, dI)) (ci := 3) (v := .int ml) (C := R_Mat) (T := T_Mat) (N := 6) hx hb hts w_52 hown hK hP 0 rfl rfl 5 (by decide) (hts _ w_74) (fun _ h9 => h9) rfl d_Mat_find_111 ?_
  refine lv_iload hx hb d_Mat_find_114 (lv_at hl 4 rfl) ?_
  refine lv_icmp_lt (tgt := 120) hx hb d_Mat_find_116 (by decide) (fun c_116 => ?_) (fun c_116 => ?_)
  · have hf := br_pos c_116 hf
    refine lv_aload_n hx hb d_Mat_find_120 rfl (lv_at hl 0 rfl) ?_
    refine va_get (D := (dC, dI)) (ci := 3) (v := .ref ea) (C := R_Mat) (T := T_Mat) (N := 6) hx hb hts w_52 hown hK hP 0 rfl rfl 2 (by decide) (hts _ w_56) (fun _ h9 => h9) rfl d_Mat_find_121 ?_
    refine lv_iload hx hb d_Mat_find_124 (lv_at hl 5 rfl) ?_
    obtain ⟨h_in, hf⟩ := as_some hf
    refine va_iald hx hb hK hP 4 1 rfl rfl h_in d_Mat_find_126 ?_
    refine lv_istore (lv' := [(5, .int (eaf x5.toNatClampNeg)), (0, .ref mt), (1, .int x1), (2, .int x2), (3, .int x3), (4, .int x4), (6, .int x6)]) hx hb d_Mat_find_127 hl (by decide) rfl (fun ls hl => ?_)
    refine lv_iinc (v := (x6 + 1)) (lv' := [(6, .int (x6 + 1)), (5, .int (eaf x5.toNatClampNeg)), (0, .ref mt), (1, .int x1), (2, .int x2), (3, .int x3), (4, .int x4)]) hx hb d_Mat_find_129 hl (k := 6) rfl (congrArg (fun z => x6 + z) (by decide)) (by decide) rfl (fun ls hl => ?_)
    refine lv_goto (tgt := 39) hx hb d_Mat_find_132 (by decide) ?_
    exact ih39 (eaf x5.toNatClampNeg) (x6 + 1) ms ml hf _ _ hP hD hS _ (lv_sub hl [2, 3, 4, 5, 6, 1, 0] rfl)
  · have hf := br_neg c_116 hf
    cases hf
    exact s_vret hx hb hr hlocks hP hK hD hS d_Mat_find_119
noncomputable def b_Mat_find_39 (N : Nat) (x1 : Int32) (x2 : Int32) (x3 : Int32) (x4 : Int32) (dn : Int32) (df : Nat → Int32) (eaf : Nat → Int32)  (kh39 : Int32 → Int32 → Int32 → Int32 → Option (Int32 × Int32)) (x5 : Int32) (x6 : Int32) (ms : Int32) (ml : Int32) : Option (Int32 × Int32) :=
  (if x1 ≤ x6 then (some (ms, ml) : Option (Int32 × Int32)) else (if x5 < 0 then (some (ms, ml) : Option (Int32 × Int32)) else (if (Int32.ofNat 16000) ≤ x5 then (some (ms, ml) : Option (Int32 × Int32)) else bd1 (f_Row_get 16000 (x5 + ml) dn df) (fun r71 => bd1 (f_Row_get 16000 (x1 + ml) dn df) (fun r84 => (if r71 = r84 then bd1 (f_Row_same N 16000 x5 x1 x2 dn df) (fun r101 => bd2 (f_Mat_hold x5 r101 x4 x3 ms ml) (fun ms_107 ml_107 => (j_Mat_find_110 x4 x5 x6 ms_107 ml_107 eaf kh39))) else (j_Mat_find_110 x4 x5 x6 ms ml eaf kh39)))))))
set_option maxHeartbeats 4000000 in
set_option maxRecDepth 100000 in
theorem k_Mat_find_39 {ms_z : Int32} {ml_z : Int32} (C : Fx p s m args meth c cd_Mat_find 7 R_Mat lw_g none) (hK : va_K (dC, dI) vwCl [(cB, .byte), (cI, .int), (cJ, .long)] s) (hA : ∀ q, s.heap.size ≤ q → A q) (x1 : Int32) (x2 : Int32) (x3 : Int32) (x4 : Int32) (mc : Int32) (dn : Int32) (df : Nat → Int32) (laf : Nat → Int32) (eaf : Nat → Int32)  : ∀ (n : Nat) (x5 : Int32) (x6 : Int32) (ms : Int32) (ml : Int32), loop4 (b_Mat_find_39 N x1 x2 x3 x4 dn df eaf ) n x5 x6 ms ml = some (ms_z, ml_z) → ∀ (H : Heap) (locs : List Loc), va_P (dC, dI) vwCl (wd_Mat_find mt d da la ea cB cI cJ mc ms ml dn df laf eaf) H → va_D A (wd_Mat_find mt d da la ea cB cI cJ mc ms ml dn df laf eaf) → va_S A s.heap H locs → ∀ (ls : Array Slot), lv_has ls 7 [(0, .ref mt), (1, .int x1), (2, .int x2), (3, .int x3), (4, .int x4), (5, .int x5), (6, .int x6)] → W p l e rm_Mat_find s m args below meth c H locs 0 0 (MQ below (sQv (dC, dI) vwCl [(cB, .byte), (cI, .int), (cJ, .long)] A (wd_Mat_find mt d da la ea cB cI cJ mc ms_z ml_z dn df laf eaf)) args s 0 0 A) (F0 m 39 ls []) := by
  obtain ⟨hx, hb, hml, hown, hts, hr, hlocks, hZ⟩ := id C
  intro n
  induction n with
  | zero => intro x5 x6 ms ml hf; cases hf
  | succ n ih39 =>
    intro x5 x6 ms ml hf H locs hP hD hS ls hl
    have hf : b_Mat_find_39 N x1 x2 x3 x4 dn df eaf  (loop4 (b_Mat_find_39 N x1 x2 x3 x4 dn df eaf ) n) x5 x6 ms ml = some (ms_z, ml_z) := hf
    generalize loop4 (b_Mat_find_39 N x1 x2 x3 x4 dn df eaf ) n = kh39 at hf ih39
    unfold b_Mat_find_39 at hf
    refine lv_iload hx hb d_Mat_find_39 (lv_at hl 6 rfl) ?_
    refine lv_iload_n hx hb d_Mat_find_41 rfl (lv_at hl 1 rfl) ?_
    refine lv_icmp_ge (tgt := 135) hx hb d_Mat_find_42 (by decide) (fun c_42 => ?_) (fun c_42 => ?_)
    · have hf := br_pos c_42 hf
      cases hf
      exact s_vret hx hb hr hlocks hP hK hD hS d_Mat_find_135
    · have hf := br_neg c_42 hf
      refine lv_iload hx hb d_Mat_find_45 (lv_at hl 5 rfl) ?_
      refine lv_if_lt (tgt := 135) hx hb d_Mat_find_47 (by decide) (fun c_47 => ?_) (fun c_47 => ?_)
      · have hf := br_pos c_47 hf
        cases hf
        exact s_vret hx hb hr hlocks hP hK hD hS d_Mat_find_135
      · have hf := br_neg c_47 hf
        refine lv_iload hx hb d_Mat_find_50 (lv_at hl 5 rfl) ?_
        refine lv_aload_n hx hb d_Mat_find_52 rfl (lv_at hl 0 rfl) ?_
        refine va_get (D := (dC, dI)) (ci := 3) (v := .ref ea) (C := R_Mat) (T := T_Mat) (N := 6) hx hb hts w_52 hown hK hP 0 rfl rfl 2 (by decide) (hts _ w_56) (fun _ h9 => h9) rfl d_Mat_find_53 ?_
        refine va_alen (v := (Int32.ofNat 16000)) hx hb hK hP 4 1 rfl rfl rfl d_Mat_find_56 ?_
        refine lv_icmp_ge (tgt := 135) hx hb d_Mat_find_57 (by decide) (fun c_57 => ?_) (fun c_57 => ?_)
        · have hf := br_pos c_57 hf
          cases hf
          exact s_vret hx hb hr hlocks hP hK hD hS d_Mat_find_135
        · have hf := br_neg c_57 hf
          refine lv_aload_n hx hb d_Mat_find_60 rfl (lv_at hl 0 rfl) ?_
          refine va_get (D := (dC, dI)) (ci := 3) (v := .ref d) (C := R_Mat) (T := T_Mat) (N := 6) hx hb hts w_52 hown hK hP 0 rfl rfl 0 (by decide) (hts _ w_57) (fun _ h9 => h9) rfl d_Mat_find_61 ?_
          refine lv_iload hx hb d_Mat_find_64 (lv_at hl 5 rfl) ?_
          refine lv_aload_n hx hb d_Mat_find_66 rfl (lv_at hl 0 rfl) ?_
          refine va_get (D := (dC, dI)) (ci := 3) (v := .int ml) (C := R_Mat) (T := T_Mat) (N := 6) hx hb hts w_52 hown hK hP 0 rfl rfl 5 (by decide) (hts _ w_74) (fun _ h9 => h9) rfl d_Mat_find_67 ?_
          refine lv_iadd hx hb d_Mat_find_70 ?_
          obtain ⟨r71, hc71, hf⟩ := bd1_some hf
          refine s_Vi (As := [.int (x5 + ml)]) (rest := []) (wr := [(mt, .inr (3, [.ref d, .ref la, .ref ea, .int mc, .int ms, .int ml])), (la, .inl (cI, 4096, .inl laf)), (ea, .inl (cI, 16000, .inl eaf))]) (ws' := wd_Mat_find mt d da la ea cB cI cJ mc ms ml dn df laf eaf) C.call (c_Row_get l dC dI cB cI cJ d da 16000 dn df (x5 + ml) hc71) (cwV 1 hts (gd_V w_79 w_80 w_81 w_12 w_82) rfl rfl rfl ⟨rfl, hd_Row_get⟩ ⟨Nat.le_of_ble_eq_true rfl, Nat.le_of_ble_eq_true rfl⟩) rfl hl.1 rfl (Nat.le_of_ble_eq_true rfl) d_Mat_find_71 ⟨Nat.le_of_ble_eq_true rfl, Nat.le_of_ble_eq_true rfl⟩ hZ hK hP hD hS hA 1 1 rfl rfl [1, 2] [0, 3, 4] [0, 3, 4, 1, 2] rfl rfl rfl rfl (by decide) rfl rfl (fun H locs hP hD hS => ?_)
          refine lv_aload_n hx hb d_Mat_find_74 rfl (lv_at hl 0 rfl) ?_
          refine va_get (D := (dC, dI)) (ci := 3) (v := .ref d) (C := R_Mat) (T := T_Mat) (N := 6) hx hb hts w_52 hown hK hP 0 rfl rfl 0 (by decide) (hts _ w_57) (fun _ h9 => h9) rfl d_Mat_find_75 ?_
          refine lv_iload_n hx hb d_Mat_find_78 rfl (lv_at hl 1 rfl) ?_
          refine lv_aload_n hx hb d_Mat_find_79 rfl (lv_at hl 0 rfl) ?_
          refine va_get (D := (dC, dI)) (ci := 3) (v := .int ml) (C := R_Mat) (T := T_Mat) (N := 6) hx hb hts w_52 hown hK hP 0 rfl rfl 5 (by decide) (hts _ w_74) (fun _ h9 => h9) rfl d_Mat_find_80 ?_
          refine lv_iadd hx hb d_Mat_find_83 ?_
          obtain ⟨r84, hc84, hf⟩ := bd1_some hf
          refine s_Vi (As := [.int (x1 + ml)]) (rest := [.int r71]) (wr := [(mt, .inr (3, [.ref d, .ref la, .ref ea, .int mc, .int ms, .int ml])), (la, .inl (cI, 4096, .inl laf)), (ea, .inl (cI, 16000, .inl eaf))]) (ws' := wd_Mat_find mt d da la ea cB cI cJ mc ms ml dn df laf eaf) C.call (c_Row_get l dC dI cB cI cJ d da 16000 dn df (x1 + ml) hc84) (cwV 1 hts (gd_V w_79 w_80 w_81 w_12 w_82) rfl rfl rfl ⟨rfl, hd_Row_get⟩ ⟨Nat.le_of_ble_eq_true rfl, Nat.le_of_ble_eq_true rfl⟩) rfl hl.1 rfl (Nat.le_of_ble_eq_true rfl) d_Mat_find_84 ⟨Nat.le_of_ble_eq_true rfl, Nat.le_of_ble_eq_true rfl⟩ hZ hK hP hD hS hA 1 1 rfl rfl [1, 2] [0, 3, 4] [0, 3, 4, 1, 2] rfl rfl rfl rfl (by decide) rfl rfl (fun H locs hP hD hS => ?_)
          refine lv_icmp_ne (tgt := 110) hx hb d_Mat_find_87 (by decide) (fun c_87 => ?_) (fun c_87 => ?_)
          · have hf := br_neg c_87 hf
            exact k_Mat_find_110 C hK hA x1 x2 x3 x4 x5 x6 mc ms ml dn df laf eaf kh39 ih39 hf hP hD hS (lv_sub hl [0, 1, 2, 3, 4, 5, 6] rfl)
          · have hf := br_pos c_87 hf
            refine lv_aload_n hx hb d_Mat_find_90 rfl (lv_at hl 0 rfl) ?_
            refine lv_iload hx hb d_Mat_find_91 (lv_at hl 5 rfl) ?_
            refine lv_aload_n hx hb d_Mat_find_93 rfl (lv_at hl 0 rfl) ?_
            refine va_get (D := (dC, dI)) (ci := 3) (v := .ref d) (C := R_Mat) (T := T_Mat) (N := 6) hx hb hts w_52 hown hK hP 0 rfl rfl 0 (by decide) (hts _ w_57) (fun _ h9 => h9) rfl d_Mat_find_94 ?_
            refine lv_iload hx hb d_Mat_find_97 (lv_at hl 5 rfl) ?_
            refine lv_iload_n hx hb d_Mat_find_99 rfl (lv_at hl 1 rfl) ?_
            refine lv_iload_n hx hb d_Mat_find_100 rfl (lv_at hl 2 rfl) ?_
            obtain ⟨r101, hc101, hf⟩ := bd1_some hf
            refine s_Vi (As := [.int x5, .int x1, .int x2]) (rest := [.int x5, .ref mt]) (wr := [(mt, .inr (3, [.ref d, .ref la, .ref ea, .int mc, .int ms, .int ml])), (la, .inl (cI, 4096, .inl laf)), (ea, .inl (cI, 16000, .inl eaf))]) (ws' := wd_Mat_find mt d da la ea cB cI cJ mc ms ml dn df laf eaf) C.call (c_Row_same l dC dI cB cI cJ d da 16000 dn df x5 x1 x2 hc101) (cwV 3 hts (gd_V w_83 w_84 w_85 w_12 w_86) rfl rfl rfl ⟨rfl, hd_Row_same⟩ ⟨Nat.le_of_ble_eq_true rfl, Nat.le_of_ble_eq_true rfl⟩) rfl hl.1 rfl (Nat.le_of_ble_eq_true rfl) d_Mat_find_101 ⟨Nat.le_of_ble_eq_true rfl, Nat.le_of_ble_eq_true rfl⟩ hZ hK hP hD hS hA 1 1 rfl rfl [1, 2] [0, 3, 4] [0, 3, 4, 1, 2] rfl rfl rfl rfl (by decide) rfl rfl (fun H locs hP hD hS => ?_)
            refine lv_iload hx hb d_Mat_find_104 (lv_at hl 4 rfl) ?_
            refine lv_iload_n hx hb d_Mat_find_106 rfl (lv_at hl 3 rfl) ?_
            obtain ⟨ms_107, ml_107, hc107, hf⟩ := bd2_some hf
            refine s_Vv (As := [.int x5, .int r101, .int x4, .int x3]) (rest := []) (wr := [(d, .inr (1, [.ref da, .int dn])), (da, .inl (cB, 16000, .inl df)), (la, .inl (cI, 4096, .inl laf)), (ea, .inl (cI, 16000, .inl eaf))]) (ws' := wd_Mat_find mt d da la ea cB cI cJ mc ms_107 ml_107 dn df laf eaf) C.call (c_Mat_hold l dC dI cB cI cJ mt d la ea  mc ms ml x5 r101 x4 x3 hc107) (cwV 4 hts (gd_V w_87 w_88 w_89 w_64 w_90) rfl rfl rfl ⟨rfl, hd_Mat_hold⟩ ⟨Nat.le_of_ble_eq_true rfl, Nat.le_of_ble_eq_true rfl⟩) rfl hl.1 rfl (Nat.le_of_ble_eq_true rfl) d_Mat_find_107 ⟨Nat.le_of_ble_eq_true rfl, Nat.le_of_ble_eq_true rfl⟩ hZ hK hP hD hS hA 3 0 rfl rfl [0] [1, 2, 3, 4] [4, 0, 1, 2, 3] rfl rfl rfl rfl (by decide) rfl rfl (fun H locs hP hD hS => ?_)
            exact k_Mat_find_110 C hK hA x1 x2 x3 x4 x5 x6 mc ms_107 ml_107 dn df laf eaf kh39 ih39 hf hP hD hS (lv_sub hl [0, 1, 2, 3, 4, 5, 6] rfl)
noncomputable def j_Mat_find_0 (N : Nat) (x1 : Int32) (x2 : Int32) (x3 : Int32) (dn : Int32) (df : Nat → Int32) (laf : Nat → Int32) (eaf : Nat → Int32)  : Option (Int32 × Int32) :=
  bd1 (f_Mat_enough (x2 - x1) x3) (fun r14 => bd1 (f_Row_word 16000 x1 dn df) (fun r25 => bd1 (f_Mat_slot r25) (fun r28 => bd1 (f_Mat_latest r28 laf) (fun r31 => (loop4 (b_Mat_find_39 N x1 x2 x3 r14 dn df eaf ) N r31 (0 : Int32) (-1 : Int32) (0 : Int32))))))
set_option maxHeartbeats 4000000 in
set_option maxRecDepth 100000 in
theorem k_Mat_find_0 {ms_z : Int32} {ml_z : Int32} (C : Fx p s m args meth c cd_Mat_find 7 R_Mat lw_g none) (hK : va_K (dC, dI) vwCl [(cB, .byte), (cI, .int), (cJ, .long)] s) (hA : ∀ q, s.heap.size ≤ q → A q) (x1 : Int32) (x2 : Int32) (x3 : Int32) (mc : Int32) (ms : Int32) (ml : Int32) (dn : Int32) (df : Nat → Int32) (laf : Nat → Int32) (eaf : Nat → Int32)  (hf : j_Mat_find_0 N x1 x2 x3 dn df laf eaf  = some (ms_z, ml_z)) (hP : va_P (dC, dI) vwCl (wd_Mat_find mt d da la ea cB cI cJ mc ms ml dn df laf eaf) H) (hD : va_D A (wd_Mat_find mt d da la ea cB cI cJ mc ms ml dn df laf eaf)) (hS : va_S A s.heap H locs) (hl : lv_has ls 7 [(0, .ref mt), (1, .int x1), (2, .int x2), (3, .int x3)]) : W p l e rm_Mat_find s m args below meth c H locs 0 0 (MQ below (sQv (dC, dI) vwCl [(cB, .byte), (cI, .int), (cJ, .long)] A (wd_Mat_find mt d da la ea cB cI cJ mc ms_z ml_z dn df laf eaf)) args s 0 0 A) (F0 m 0 ls []) := by
  obtain ⟨hx, hb, hml, hown, hts, hr, hlocks, hZ⟩ := id C
  unfold j_Mat_find_0 at hf
  refine lv_aload_n hx hb d_Mat_find_0 rfl (lv_at hl 0 rfl) ?_
  refine lv_iconst (v := -1) hx hb d_Mat_find_1 (by decide) ?_
  refine va_put (D := (dC, dI)) (ci := 3) (v := .int (-1 : Int32)) (ty := .int) (C := R_Mat) (T := T_Mat) (N := 6) hx hb hts w_52 ty_Mat ty_Mat_ok nm_Mat hown hK hP hD hS 0 rfl rfl 4 (by decide) (hts _ w_75) (fun _ h9 => h9) rfl (by decide +kernel) rfl rfl (Nat.le_of_ble_eq_true rfl) d_Mat_find_2 (fun H locs hP hD hS => ?_)
  have hP : va_P (dC, dI) vwCl (wd_Mat_find mt d da la ea cB cI cJ mc (-1 : Int32) ml dn df laf eaf) H := hP
  have hD : va_D A (wd_Mat_find mt d da la ea cB cI cJ mc (-1 : Int32) ml dn df laf eaf) := hD
  refine lv_aload_n hx hb d_Mat_find_5 rfl (lv_at hl 0 rfl) ?_
  refine lv_iconst (v := 0) hx hb d_Mat_find_6 (by decide) ?_
  refine va_put (D := (dC, dI)) (ci := 3) (v := .int (0 : Int32)) (ty := .int) (C := R_Mat) (T := T_Mat) (N := 6) hx hb hts w_52 ty_Mat ty_Mat_ok nm_Mat hown hK hP hD hS 0 rfl rfl 5 (by decide) (hts _ w_74) (fun _ h9 => h9) rfl (by decide +kernel) rfl rfl (Nat.le_of_ble_eq_true rfl) d_Mat_find_7 (fun H locs hP hD hS => ?_)
  have hP : va_P (dC, dI) vwCl (wd_Mat_find mt d da la ea cB cI cJ mc (-1 : Int32) (0 : Int32) dn df laf eaf) H := hP
  have hD : va_D A (wd_Mat_find mt d da la ea cB cI cJ mc (-1 : Int32) (0 : Int32) dn df laf eaf) := hD
  refine lv_iload_n hx hb d_Mat_find_10 rfl (lv_at hl 2 rfl) ?_
  refine lv_iload_n hx hb d_Mat_find_11 rfl (lv_at hl 1 rfl) ?_
  refine lv_isub hx hb d_Mat_find_12 ?_
  refine lv_iload_n hx hb d_Mat_find_13 rfl (lv_at hl 3 rfl) ?_
  obtain ⟨r14, hc14, hf⟩ := bd1_some hf
  refine s_Si (As := [.int (x2 - x1), .int x3]) (rest := []) (wr := [(mt, .inr (3, [.ref d, .ref la, .ref ea, .int mc, .int (-1 : Int32), .int (0 : Int32)])), (d, .inr (1, [.ref da, .int dn])), (da, .inl (cB, 16000, .inl df)), (la, .inl (cI, 4096, .inl laf)), (ea, .inl (cI, 16000, .inl eaf))]) (ws' := wd_Mat_find mt d da la ea cB cI cJ mc (-1 : Int32) (0 : Int32) dn df laf eaf) C.call (c_Mat_enough l dC dI cB cI cJ    (x2 - x1) x3 hc14) (va_cwS 2 hts (gd_S w_76 w_77 w_64 w_78) rfl rfl rfl hd_Mat_enough ⟨Nat.le_of_ble_eq_true rfl, Nat.le_of_ble_eq_true rfl⟩) rfl hl.1 rfl (Nat.le_of_ble_eq_true rfl) d_Mat_find_14 ⟨Nat.le_of_ble_eq_true rfl, Nat.le_of_ble_eq_true rfl⟩ hZ hK hP hD hS hA [] [0, 1, 2, 3, 4] [0, 1, 2, 3, 4] rfl rfl rfl rfl (by decide) rfl rfl (fun H locs hP hD hS => ?_)
  refine lv_istore (lv' := [(4, .int r14), (0, .ref mt), (1, .int x1), (2, .int x2), (3, .int x3)]) hx hb d_Mat_find_17 hl (by decide) rfl (fun ls hl => ?_)
  refine lv_aload_n hx hb d_Mat_find_19 rfl (lv_at hl 1 rfl) ?_
  refine lv_aload_n hx hb d_Mat_find_20 rfl (lv_at hl 1 rfl) ?_
  refine va_get (D := (dC, dI)) (ci := 3) (v := .ref d) (C := R_Mat) (T := T_Mat) (N := 6) hx hb hts w_52 hown hK hP 0 rfl rfl 0 (by decide) (hts _ w_57) (fun _ h9 => h9) rfl d_Mat_find_21 ?_
  refine lv_iload_n hx hb d_Mat_find_24 rfl (lv_at hl 2 rfl) ?_
  obtain ⟨r25, hc25, hf⟩ := bd1_some hf
  refine s_Vi (As := [.int x1]) (rest := [.ref mt]) (wr := [(mt, .inr (3, [.ref d, .ref la, .ref ea, .int mc, .int (-1 : Int32), .int (0 : Int32)])), (la, .inl (cI, 4096, .inl laf)), (ea, .inl (cI, 16000, .inl eaf))]) (ws' := wd_Mat_find mt d da la ea cB cI cJ mc (-1 : Int32) (0 : Int32) dn df laf eaf) C.call (c_Row_word l dC dI cB cI cJ d da 16000 dn df x1 hc25) (cwV 1 hts (gd_V w_58 w_59 w_60 w_12 w_61) rfl rfl rfl ⟨rfl, hd_Row_word⟩ ⟨Nat.le_of_ble_eq_true rfl, Nat.le_of_ble_eq_true rfl⟩) rfl hl.1 rfl (Nat.le_of_ble_eq_true rfl) d_Mat_find_25 ⟨Nat.le_of_ble_eq_true rfl, Nat.le_of_ble_eq_true rfl⟩ hZ hK hP hD hS hA 1 1 rfl rfl [1, 2] [0, 3, 4] [0, 3, 4, 1, 2] rfl rfl rfl rfl (by decide) rfl rfl (fun H locs hP hD hS => ?_)
  obtain ⟨r28, hc28, hf⟩ := bd1_some hf
  refine s_Si (As := [.int r25]) (rest := [.ref mt]) (wr := [(mt, .inr (3, [.ref d, .ref la, .ref ea, .int mc, .int (-1 : Int32), .int (0 : Int32)])), (d, .inr (1, [.ref da, .int dn])), (da, .inl (cB, 16000, .inl df)), (la, .inl (cI, 4096, .inl laf)), (ea, .inl (cI, 16000, .inl eaf))]) (ws' := wd_Mat_find mt d da la ea cB cI cJ mc (-1 : Int32) (0 : Int32) dn df laf eaf) C.call (c_Mat_slot l dC dI cB cI cJ    r25 hc28) (va_cwS 1 hts (gd_S w_62 w_63 w_64 w_65) rfl rfl rfl hd_Mat_slot ⟨Nat.le_of_ble_eq_true rfl, Nat.le_of_ble_eq_true rfl⟩) rfl hl.1 rfl (Nat.le_of_ble_eq_true rfl) d_Mat_find_28 ⟨Nat.le_of_ble_eq_true rfl, Nat.le_of_ble_eq_true rfl⟩ hZ hK hP hD hS hA [] [0, 1, 2, 3, 4] [0, 1, 2, 3, 4] rfl rfl rfl rfl (by decide) rfl rfl (fun H locs hP hD hS => ?_)
  obtain ⟨r31, hc31, hf⟩ := bd1_some hf
  refine s_Vi (As := [.int r28]) (rest := []) (wr := [(d, .inr (1, [.ref da, .int dn])), (da, .inl (cB, 16000, .inl df)), (ea, .inl (cI, 16000, .inl eaf))]) (ws' := wd_Mat_find mt d da la ea cB cI cJ mc (-1 : Int32) (0 : Int32) dn df laf eaf) C.call (c_Mat_latest l dC dI cB cI cJ mt la d ea  mc (-1 : Int32) (0 : Int32) laf r28 hc31) (cwV 1 hts (gd_V w_66 w_67 w_68 w_64 w_69) rfl rfl rfl ⟨rfl, hd_Mat_latest⟩ ⟨Nat.le_of_ble_eq_true rfl, Nat.le_of_ble_eq_true rfl⟩) rfl hl.1 rfl (Nat.le_of_ble_eq_true rfl) d_Mat_find_31 ⟨Nat.le_of_ble_eq_true rfl, Nat.le_of_ble_eq_true rfl⟩ hZ hK hP hD hS hA 3 0 rfl rfl [0, 3] [1, 2, 4] [3, 0, 1, 4, 2] rfl rfl rfl rfl (by decide) rfl rfl (fun H locs hP hD hS => ?_)
  refine lv_istore (lv' := [(5, .int r31), (4, .int r14), (0, .ref mt), (1, .int x1), (2, .int x2), (3, .int x3)]) hx hb d_Mat_find_34 hl (by decide) rfl (fun ls hl => ?_)
  refine lv_iconst (v := 0) hx hb d_Mat_find_36 (by decide) ?_
  refine lv_istore (lv' := [(6, .int (0 : Int32)), (5, .int r31), (4, .int r14), (0, .ref mt), (1, .int x1), (2, .int x2), (3, .int x3)]) hx hb d_Mat_find_37 hl (by decide) rfl (fun ls hl => ?_)
  exact k_Mat_find_39 C hK hA x1 x2 x3 r14 mc dn df laf eaf  N r31 (0 : Int32) (-1 : Int32) (0 : Int32) hf _ _ hP hD hS _ (lv_sub hl [3, 4, 5, 6, 2, 1, 0] rfl)
end
noncomputable abbrev f_Mat_find (N : Nat) (x1 : Int32) (x2 : Int32) (x3 : Int32) (dn : Int32) (df : Nat → Int32) (laf : Nat → Int32) (eaf : Nat → Int32) : Option (Int32 × Int32) := j_Mat_find_0 N x1 x2 x3 dn df laf eaf
set_option maxRecDepth 100000 in
theorem c_Mat_find {N : Nat} (l : Launch) (dC : Nat → ClassId) (dI : Nat → Nat → Nat) (cB cI cJ : ClassId) (mt d da la ea : Nat) (mc : Int32) (ms : Int32) (ml : Int32) (dn : Int32) (df : Nat → Int32) (laf : Nat → Int32) (eaf : Nat → Int32) (x1 : Int32) (x2 : Int32) (x3 : Int32) {ms_z : Int32} {ml_z : Int32} (hf : f_Mat_find N x1 x2 x3 dn df laf eaf = some (ms_z, ml_z)) : MetV l y_Mat_find ws_Mat_find rm_Mat_find (dC, dI) vwCl [(cB, .byte), (cI, .int), (cJ, .long)] [.ref mt, .int x1, .int x2, .int x3] (wd_Mat_find mt d da la ea cB cI cJ mc ms ml dn df laf eaf)  (wd_Mat_find mt d da la ea cB cI cJ mc ms_z ml_z dn df laf eaf) 0 0 :=
  s_ofv (bytes := cd_Mat_find) (maxL := 7) (ret := none) (by decide) rfl (Nat.le_of_ble_eq_true rfl) (fun p e s m below meth c A ls C hK hA hP hD hS hl => k_Mat_find_0 C hK hA x1 x2 x3 mc ms ml dn df laf eaf hf hP hD hS (lv_sub hl [0, 1, 2, 3] rfl))
