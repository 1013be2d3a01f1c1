abbrev wd_Mat_chainBelow (mt d da la ea : Nat) (cB cI cJ : ClassId) (mc : Int32) (ms : Int32) (ml : Int32) (dn : Int32) (df : Nat → Int32) (laf : Nat → Int32) (eaf : Nat → Int32) : va_W := [(mt, .inr (3, [.ref d, .ref la, .ref ea, .int mc, .int ms, .int ml])), (d, .inr (1, [.ref da, .int dn])), (da, .inl (cB, 16000, .inl df)), (la, .inl (cI, 4096, .inl laf)), (ea, .inl (cI, 16000, .inl eaf))]
abbrev rm_Mat_chainBelow : Room := { frames := 1, cells := 0, slots := 0, locals := 21 }
section
variable {p : Program} {l : Launch} {e : Env} {s : State} {m : MethodId} {args : Array Value} {below : List Frame} {meth : Method} {c : Code} {dC : Nat → ClassId} {dI : Nat → Nat → Nat} {A : Nat → Prop} {cB cI cJ : ClassId} {H : Heap} {locs : List Loc} {ls : Array Slot} {N : Nat} {mt d da la ea : Nat}
noncomputable def b_Mat_chainBelow_0 (x1 : Int32) (dn : Int32) (df : Nat → Int32)  (kh0 : Int32 → (Nat → Int32) → (Nat → Int32) → Option (Int32 × (Nat → Int32) × (Nat → Int32))) (mc : Int32) (laf : Nat → Int32) (eaf : Nat → Int32) : Option (Int32 × (Nat → Int32) × (Nat → Int32)) :=
  (if x1 ≤ mc then (some (mc, laf, eaf) : Option (Int32 × (Nat → Int32) × (Nat → Int32))) else (if (Int32.ofNat 16000) ≤ mc then (some (mc, laf, eaf) : Option (Int32 × (Nat → Int32) × (Nat → Int32))) else bd1 (f_Row_word 16000 mc dn df) (fun r28 => bd1 (f_Mat_slot r28) (fun r31 => as_ (vp_in r31 4096) (as_ (vp_in mc 16000) (as_ (vp_in r31 4096) ((kh0 (mc + (1 : Int32)) (upd laf r31.toNatClampNeg mc) (upd eaf mc.toNatClampNeg (laf r31.toNatClampNeg))))))))))
set_option maxHeartbeats 4000000 in
set_option maxRecDepth 100000 in
theorem k_Mat_chainBelow_0 {mc_z : Int32} {laf_z : Nat → Int32} {eaf_z : Nat → Int32} (C : Fx p s m args meth c cd_Mat_chainBelow 3 R_Mat lw_g none) (hK : va_K (dC, dI) vwCl [(cB, .byte), (cI, .int), (cJ, .long)] s) (hA : ∀ q, s.heap.size ≤ q → A q) (x1 : Int32) (ms : Int32) (ml : Int32) (dn : Int32) (df : Nat → Int32)  : ∀ (n : Nat) (mc : Int32) (laf : Nat → Int32) (eaf : Nat → Int32), loop3 (b_Mat_chainBelow_0 x1 dn df ) n mc laf eaf = some (mc_z, laf_z, eaf_z) → ∀ (H : Heap) (locs : List Loc), va_P (dC, dI) vwCl (wd_Mat_chainBelow mt d da la ea cB cI cJ mc ms ml dn df laf eaf) H → va_D A (wd_Mat_chainBelow mt d da la ea cB cI cJ mc ms ml dn df laf eaf) → va_S A s.heap H locs → ∀ (ls : Array Slot), lv_has ls 3 [(0, .ref mt), (1, .int x1)] → W p l e rm_Mat_chainBelow s m args below meth c H locs 0 0 (MQ below (sQv (dC, dI) vwCl [(cB, .byte), (cI, .int), (cJ, .long)] A (wd_Mat_chainBelow mt d da la ea cB cI cJ mc_z ms ml dn df laf_z eaf_z)) args s 0 0 A) (F0 m 0 ls []) := by
  obtain ⟨hx, hb, hml, hown, hts, hr, hlocks, hZ⟩ := id C
  intro n
  induction n with
  | zero => intro mc laf eaf hf; cases hf
  | succ n ih0 =>
    intro mc laf eaf hf H locs hP hD hS ls hl
    have hf : b_Mat_chainBelow_0 x1 dn df  (loop3 (b_Mat_chainBelow_0 x1 dn df ) n) mc laf eaf = some (mc_z, laf_z, eaf_z) := hf
    generalize loop3 (b_Mat_chainBelow_0 x1 dn df ) n = kh0 at hf ih0
    unfold b_Mat_chainBelow_0 at hf
    refine lv_aload_n hx hb d_Mat_chainBelow_0 rfl (lv_at hl 0 rfl) ?_
    refine va_get (D := (dC, dI)) (ci := 3) (v := .int mc) (C := R_Mat) (T := T_Mat) (N := 6) hx hb hts w_53 hown hK hP 0 rfl rfl 3 (by decide) (hts _ w_54) (fun _ h9 => h9) rfl d_Mat_chainBelow_1 ?_
    refine lv_iload_n hx hb d_Mat_chainBelow_4 rfl (lv_at hl 1 rfl) ?_
    refine lv_icmp_ge (tgt := 73) hx hb d_Mat_chainBelow_5 (by decide) (fun c_5 => ?_) (fun c_5 => ?_)
    · have hf := br_pos c_5 hf
      cases hf
      exact s_vret hx hb hr hlocks hP hK hD hS d_Mat_chainBelow_73
    · have hf := br_neg c_5 hf
      refine lv_aload_n hx hb d_Mat_chainBelow_8 rfl (lv_at hl 0 rfl) ?_
      refine va_get (D := (dC, dI)) (ci := 3) (v := .int mc) (C := R_Mat) (T := T_Mat) (N := 6) hx hb hts w_53 hown hK hP 0 rfl rfl 3 (by decide) (hts _ w_54) (fun _ h9 => h9) rfl d_Mat_chainBelow_9 ?_
      refine lv_aload_n hx hb d_Mat_chainBelow_12 rfl (lv_at hl 0 rfl) ?_
      refine va_get (D := (dC, dI)) (ci := 3) (v := .ref ea) (C := R_Mat) (T := T_Mat) (N := 6) hx hb hts w_53 hown hK hP 0 rfl rfl 2 (by decide) (hts _ w_55) (fun _ h9 => h9) rfl d_Mat_chainBelow_13 ?_
      refine va_alen (v := (Int32.ofNat 16000)) hx hb hK hP 4 1 rfl rfl rfl d_Mat_chainBelow_16 ?_
      refine lv_icmp_ge (tgt := 73) hx hb d_Mat_chainBelow_17 (by decide) (fun c_17 => ?_) (fun c_17 => ?_)
      · have hf := br_pos c_17 hf
        cases hf
        exact s_vret hx hb hr hlocks hP hK hD hS d_Mat_chainBelow_73
      · have hf := br_neg c_17 hf
        refine lv_aload_n hx hb d_Mat_chainBelow_20 rfl (lv_at hl 0 rfl) ?_
        refine va_get (D := (dC, dI)) (ci := 3) (v := .ref d) (C := R_Mat) (T := T_Mat) (N := 6) hx hb hts w_53 hown hK hP 0 rfl rfl 0 (by decide) (hts _ w_56) (fun _ h9 => h9) rfl d_Mat_chainBelow_21 ?_
        refine lv_aload_n hx hb d_Mat_chainBelow_24 rfl (lv_at hl 0 rfl) ?_
        refine va_get (D := (dC, dI)) (ci := 3) (v := .int mc) (C := R_Mat) (T := T_Mat) (N := 6) hx hb hts w_53 hown hK hP 0 rfl rfl 3 (by decide) (hts _ w_54) (fun _ h9 => h9) rfl d_Mat_chainBelow_25 ?_
        obtain ⟨r28, hc28, hf⟩ := bd1_some hf
        refine s_Vi (As := [.int mc]) (rest := []) (wr := [(mt, .inr (3, [.ref d, .ref la, .ref ea, .int mc, .int ms, .int ml])), (la, .inl (cI, 4096, .inl laf)), (ea, .inl (cI, 16000, .inl eaf))]) (ws' := wd_Mat_chainBelow mt d da la ea cB cI cJ mc ms ml dn df laf eaf) C.call (c_Row_word l dC dI cB cI cJ d da 16000 dn df mc hc28) (cwV 1 hts (gd_V w_57 w_58 w_59 w_12 w_60) rfl rfl rfl ⟨rfl, hd_Row_word⟩ ⟨Nat.le_of_ble_eq_true rfl, Nat.le_of_ble_eq_true rfl⟩) rfl hl.1 rfl (Nat.le_of_ble_eq_true rfl) d_Mat_chainBelow_28 ⟨Nat.le_of_ble_eq_true rfl, Nat.le_of_ble_eq_true rfl⟩ hZ hK hP hD hS hA 1 1 rfl rfl [1, 2] [0, 3, 4] [0, 3, 4, 1, 2] rfl rfl rfl rfl (by decide) rfl rfl (fun H locs hP hD hS => ?_)
        obtain ⟨r31, hc31, hf⟩ := bd1_some hf
        refine s_Si (As := [.int r28]) (rest := []) (wr := [(mt, .inr (3, [.ref d, .ref la, .ref ea, .int mc, .int ms, .int ml])), (d, .inr (1, [.ref da, .int dn])), (da, .inl (cB, 16000, .inl df)), (la, .inl (cI, 4096, .inl laf)), (ea, .inl (cI, 16000, .inl eaf))]) (ws' := wd_Mat_chainBelow mt d da la ea cB cI cJ mc ms ml dn df laf eaf) C.call (c_Mat_slot l dC dI cB cI cJ    r28 hc31) (va_cwS 1 hts (gd_S w_61 w_62 w_63 w_64) rfl rfl rfl hd_Mat_slot ⟨Nat.le_of_ble_eq_true rfl, Nat.le_of_ble_eq_true rfl⟩) rfl hl.1 rfl (Nat.le_of_ble_eq_true rfl) d_Mat_chainBelow_31 ⟨Nat.le_of_ble_eq_true rfl, Nat.le_of_ble_eq_true rfl⟩ hZ hK hP hD hS hA [] [0, 1, 2, 3, 4] [0, 1, 2, 3, 4] rfl rfl rfl rfl (by decide) rfl rfl (fun H locs hP hD hS => ?_)
        refine lv_istore_n (lv' := [(2, .int r31), (0, .ref mt), (1, .int x1)]) hx hb d_Mat_chainBelow_34 rfl hl (by decide) rfl (fun ls hl => ?_)
        refine lv_aload_n hx hb d_Mat_chainBelow_35 rfl (lv_at hl 1 rfl) ?_
        refine va_get (D := (dC, dI)) (ci := 3) (v := .ref ea) (C := R_Mat) (T := T_Mat) (N := 6) hx hb hts w_53 hown hK hP 0 rfl rfl 2 (by decide) (hts _ w_55) (fun _ h9 => h9) rfl d_Mat_chainBelow_36 ?_
        refine lv_aload_n hx hb d_Mat_chainBelow_39 rfl (lv_at hl 1 rfl) ?_
        refine va_get (D := (dC, dI)) (ci := 3) (v := .int mc) (C := R_Mat) (T := T_Mat) (N := 6) hx hb hts w_53 hown hK hP 0 rfl rfl 3 (by decide) (hts _ w_54) (fun _ h9 => h9) rfl d_Mat_chainBelow_40 ?_
        refine lv_aload_n hx hb d_Mat_chainBelow_43 rfl (lv_at hl 1 rfl) ?_
        refine va_get (D := (dC, dI)) (ci := 3) (v := .ref la) (C := R_Mat) (T := T_Mat) (N := 6) hx hb hts w_53 hown hK hP 0 rfl rfl 1 (by decide) (hts _ w_65) (fun _ h9 => h9) rfl d_Mat_chainBelow_44 ?_
        refine lv_iload_n hx hb d_Mat_chainBelow_47 rfl (lv_at hl 0 rfl) ?_
        obtain ⟨h_in, hf⟩ := as_some hf
        refine va_iald hx hb hK hP 3 1 rfl rfl h_in d_Mat_chainBelow_48 ?_
        obtain ⟨h_in, hf⟩ := as_some hf
        refine va_iast hx hb hK hP hD hS 4 1 rfl rfl h_in d_Mat_chainBelow_49 (fun H locs hP hD hS => ?_)
        have hP : va_P (dC, dI) vwCl (wd_Mat_chainBelow mt d da la ea cB cI cJ mc ms ml dn df laf (upd eaf mc.toNatClampNeg (laf r31.toNatClampNeg))) H := hP
        have hD : va_D A (wd_Mat_chainBelow mt d da la ea cB cI cJ mc ms ml dn df laf (upd eaf mc.toNatClampNeg (laf r31.toNatClampNeg))) := hD
        refine lv_aload_n hx hb d_Mat_chainBelow_50 rfl (lv_at hl 1 rfl) ?_
        refine va_get (D := (dC, dI)) (ci := 3) (v := .ref la) (C := R_Mat) (T := T_Mat) (N := 6) hx hb hts w_53 hown hK hP 0 rfl rfl 1 (by decide) (hts _ w_65) (fun _ h9 => h9) rfl d_Mat_chainBelow_51 ?_
        refine lv_iload_n hx hb d_Mat_chainBelow_54 rfl (lv_at hl 0 rfl) ?_
        refine lv_aload_n hx hb d_Mat_chainBelow_55 rfl (lv_at hl 1 rfl) ?_
        refine va_get (D := (dC, dI)) (ci := 3) (v := .int mc) (C := R_Mat) (T := T_Mat) (N := 6) hx hb hts w_53 hown hK hP 0 rfl rfl 3 (by decide) (hts _ w_54) (fun _ h9 => h9) rfl d_Mat_chainBelow_56 ?_
        obtain ⟨h_in, hf⟩ := as_some hf
        refine va_iast hx hb hK hP hD hS 3 1 rfl rfl h_in d_Mat_chainBelow_59 (fun H locs hP hD hS => ?_)
        have hP : va_P (dC, dI) vwCl (wd_Mat_chainBelow mt d da la ea cB cI cJ mc ms ml dn df (upd laf r31.toNatClampNeg mc) (upd eaf mc.toNatClampNeg (laf r31.toNatClampNeg))) H := hP
        have hD : va_D A (wd_Mat_chainBelow mt d da la ea cB cI cJ mc ms ml dn df (upd laf r31.toNatClampNeg mc) (upd eaf mc.toNatClampNeg (laf r31.toNatClampNeg))) := hD
        refine lv_aload_n hx hb d_Mat_chainBelow_60 rfl (lv_at hl 1 rfl) ?_
        refine lv_dup hx hb d_Mat_chainBelow_61 rfl ?_
        refine va_get (D := (dC, dI)) (ci := 3) (v := .int mc) (C := R_Mat) (T := T_Mat) (N := 6) hx hb hts w_53 hown hK hP 0 rfl rfl 3 (by decide) (hts _ w_54) (fun _ h9 => h9) rfl d_Mat_chainBelow_62 ?_
        refine lv_iconst (v := 1) hx hb d_Mat_chainBelow_65 (by decide) ?_
        refine lv_iadd hx hb d_Mat_chainBelow_66 ?_
        refine va_put (D := (dC, dI)) (ci := 3) (v := .int (mc + (1 : Int32))) (ty := .int) (C := R_Mat) (T := T_Mat) (N := 6) hx hb hts w_53 ty_Mat ty_Mat_ok nm_Mat hown hK hP hD hS 0 rfl rfl 3 (by decide) (hts _ w_54) (fun _ h9 => h9) rfl (by decide +kernel) rfl rfl (Nat.le_of_ble_eq_true rfl) d_Mat_chainBelow_67 (fun H locs hP hD hS => ?_)
        have hP : va_P (dC, dI) vwCl (wd_Mat_chainBelow mt d da la ea cB cI cJ (mc + (1 : Int32)) ms ml dn df (upd laf r31.toNatClampNeg mc) (upd eaf mc.toNatClampNeg (laf r31.toNatClampNeg))) H := hP
        have hD : va_D A (wd_Mat_chainBelow mt d da la ea cB cI cJ (mc + (1 : Int32)) ms ml dn df (upd laf r31.toNatClampNeg mc) (upd eaf mc.toNatClampNeg (laf r31.toNatClampNeg))) := hD
        refine lv_goto (tgt := 0) hx hb d_Mat_chainBelow_70 (by decide) ?_
        exact ih0 (mc + (1 : Int32)) (upd laf r31.toNatClampNeg mc) (upd eaf mc.toNatClampNeg (laf r31.toNatClampNeg)) hf _ _ hP hD hS _ (lv_sub hl [1, 2] rfl)
end
noncomputable abbrev f_Mat_chainBelow (N : Nat) (x1 : Int32) (dn : Int32) (df : Nat → Int32) (mc : Int32) (laf : Nat → Int32) (eaf : Nat → Int32) : Option (Int32 × (Nat → Int32) × (Nat → Int32)) := loop3 (b_Mat_chainBelow_0 x1 dn df) N mc laf eaf
set_option maxRecDepth 100000 in
theorem c_Mat_chainBelow {N : Nat} (l : Launch) (dC : Nat → ClassId) (dI : Nat → Nat → Nat) (cB cI cJ : ClassId) (mt d da la ea : Nat) (mc : Int32) (ms : Int32) (ml : Int32) (dn : Int32) (df : Nat → Int32) (laf : Nat → Int32) (eaf : Nat → Int32) (x1 : Int32) {mc_z : Int32} {laf_z : Nat → Int32} {eaf_z : Nat → Int32} (hf : f_Mat_chainBelow N x1 dn df mc laf eaf = some (mc_z, laf_z, eaf_z)) : MetV l y_Mat_chainBelow ws_Mat_chainBelow rm_Mat_chainBelow (dC, dI) vwCl [(cB, .byte), (cI, .int), (cJ, .long)] [.ref mt, .int x1] (wd_Mat_chainBelow mt d da la ea cB cI cJ mc ms ml dn df laf eaf)  (wd_Mat_chainBelow mt d da la ea cB cI cJ mc_z ms ml dn df laf_z eaf_z) 0 0 :=
  s_ofv (bytes := cd_Mat_chainBelow) (maxL := 3) (ret := none) (by decide) rfl (Nat.le_of_ble_eq_true rfl) (fun p e s m below meth c A ls C hK hA hP hD hS hl => k_Mat_chainBelow_0 C hK hA x1 ms ml dn df N mc laf eaf hf _ _ hP hD hS _ (lv_sub hl [0, 1] rfl))
