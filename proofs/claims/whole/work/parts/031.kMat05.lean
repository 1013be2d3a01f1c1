abbrev wd_Mat_look (mt d da la ea : Nat) (cB cI cJ : ClassId) (mc : Int32) (ms : Int32) (ml : Int32) (dn : Int32) (df : Nat → Int32) (laf : Nat → Int32) (eaf : Nat → Int32) : va_W := [(mt, .inr (3, [.ref d, .ref la, .ref ea, .int mc, .int ms, .int ml])), (d, .inr (1, [.ref da, .int dn])), (da, .inl (cB, 16000, .inl df)), (la, .inl (cI, 4096, .inl laf)), (ea, .inl (cI, 16000, .inl eaf))]
abbrev rm_Mat_look : Room := { frames := 3, cells := 0, slots := 0, locals := 64 }
section
variable {p : Program} {l : Launch} {e : Env} {s : State} {m : MethodId} {args : Array Value} {below : List Frame} {meth : Method} {c : Code} {dC : Nat → ClassId} {dI : Nat → Nat → Nat} {A : Nat → Prop} {cB cI cJ : ClassId} {H : Heap} {locs : List Loc} {ls : Array Slot} {N : Nat} {mt d da la ea : Nat}
noncomputable def j_Mat_look_81 (x6 : Int32) (t0 : Int32) (mc : Int32) (laf : Nat → Int32) (eaf : Nat → Int32)  : Option (Int32 × Int32 × Int32 × Int32 × (Nat → Int32) × (Nat → Int32)) :=
  (some (t0, mc, x6, t0, laf, eaf) : Option (Int32 × Int32 × Int32 × Int32 × (Nat → Int32) × (Nat → Int32)))
set_option maxHeartbeats 4000000 in
set_option maxRecDepth 100000 in
theorem k_Mat_look_81 {r_z : Int32} {mc_z : Int32} {ms_z : Int32} {ml_z : Int32} {laf_z : Nat → Int32} {eaf_z : Nat → Int32} (C : Fx p s m args meth c cd_Mat_look 7 R_Mat lw_g (some .int)) (hK : va_K (dC, dI) vwCl [(cB, .byte), (cI, .int), (cJ, .long)] s) (hA : ∀ q, s.heap.size ≤ q → A q) (x6 : Int32) (t0 : Int32) (mc : Int32) (ms : Int32) (ml : Int32) (dn : Int32) (df : Nat → Int32) (laf : Nat → Int32) (eaf : Nat → Int32)  (hf : j_Mat_look_81 x6 t0 mc laf eaf  = some (r_z, mc_z, ms_z, ml_z, laf_z, eaf_z)) (hP : va_P (dC, dI) vwCl (wd_Mat_look mt d da la ea cB cI cJ mc ms ml dn df laf eaf) H) (hD : va_D A (wd_Mat_look mt d da la ea cB cI cJ mc ms ml dn df laf eaf)) (hS : va_S A s.heap H locs) (hl : lv_has ls 7 [(0, .ref mt), (6, .int x6)]) : W p l e rm_Mat_look s m args below meth c H locs 0 0 (MQ below (sQi (dC, dI) vwCl [(cB, .byte), (cI, .int), (cJ, .long)] A r_z (wd_Mat_look mt d da la ea cB cI cJ mc_z ms_z ml_z dn df laf_z eaf_z)) args s 0 0 A) (F0 m 81 ls [.int t0, .ref mt]) := by
  obtain ⟨hx, hb, hml, hown, hts, hr, hlocks, hZ⟩ := id C
  unfold j_Mat_look_81 at hf
  refine va_put (D := (dC, dI)) (ci := 3) (v := .int t0) (ty := .int) (C := R_Mat) (T := T_Mat) (N := 6) hx hb hts w_53 ty_Mat ty_Mat_ok nm_Mat hown hK hP hD hS 0 rfl rfl 5 (by decide) (hts _ w_66) (fun _ h9 => h9) rfl (by decide +kernel) rfl rfl (Nat.le_of_ble_eq_true rfl) d_Mat_look_81 (fun H locs hP hD hS => ?_)
  have hP : va_P (dC, dI) vwCl (wd_Mat_look mt d da la ea cB cI cJ mc ms t0 dn df laf eaf) H := hP
  have hD : va_D A (wd_Mat_look mt d da la ea cB cI cJ mc ms t0 dn df laf eaf) := hD
  refine lv_aload_n hx hb d_Mat_look_84 rfl (lv_at hl 0 rfl) ?_
  refine lv_iload hx hb d_Mat_look_85 (lv_at hl 1 rfl) ?_
  refine va_put (D := (dC, dI)) (ci := 3) (v := .int x6) (ty := .int) (C := R_Mat) (T := T_Mat) (N := 6) hx hb hts w_53 ty_Mat ty_Mat_ok nm_Mat hown hK hP hD hS 0 rfl rfl 4 (by decide) (hts _ w_67) (fun _ h9 => h9) rfl (by decide +kernel) rfl rfl (Nat.le_of_ble_eq_true rfl) d_Mat_look_87 (fun H locs hP hD hS => ?_)
  have hP : va_P (dC, dI) vwCl (wd_Mat_look mt d da la ea cB cI cJ mc x6 t0 dn df laf eaf) H := hP
  have hD : va_D A (wd_Mat_look mt d da la ea cB cI cJ mc x6 t0 dn df laf eaf) := hD
  refine lv_aload_n hx hb d_Mat_look_90 rfl (lv_at hl 0 rfl) ?_
  refine va_get (D := (dC, dI)) (ci := 3) (v := .int t0) (C := R_Mat) (T := T_Mat) (N := 6) hx hb hts w_53 hown hK hP 0 rfl rfl 5 (by decide) (hts _ w_66) (fun _ h9 => h9) rfl d_Mat_look_91 ?_
  cases hf
  exact s_iret hx hb hr hlocks hP hK hD hS d_Mat_look_94
noncomputable def j_Mat_look_0 (N : Nat) (x1 : Int32) (x2 : Int32) (x3 : Int32) (x4 : Int32) (mc : Int32) (dn : Int32) (df : Nat → Int32) (laf : Nat → Int32) (eaf : Nat → Int32)  : Option (Int32 × Int32 × Int32 × Int32 × (Nat → Int32) × (Nat → Int32)) :=
  bd3 (f_Mat_chainBelow N x1 dn df mc laf eaf) (fun mc_2 laf_2 eaf_2 => bd2 (f_Mat_find N x1 x2 x4 dn df laf_2 eaf_2) (fun ms_10 ml_10 => (if x4 = (3 : Int32) then (if ml_10 = 0 then (some (ml_10, mc_2, ms_10, ml_10, laf_2, eaf_2) : Option (Int32 × Int32 × Int32 × Int32 × (Nat → Int32) × (Nat → Int32))) else (if x1 < x3 then bd3 (f_Mat_chainBelow N (x1 + (1 : Int32)) dn df mc_2 laf_2 eaf_2) (fun mc_52 laf_52 eaf_52 => bd2 (f_Mat_find N (x1 + (1 : Int32)) x2 x4 dn df laf_52 eaf_52) (fun ms_62 ml_62 => (if ml_62 ≤ ml_10 then (j_Mat_look_81 ms_10 ml_10 mc_52 laf_52 eaf_52 ) else (j_Mat_look_81 ms_10 (0 : Int32) mc_52 laf_52 eaf_52 )))) else (some (ml_10, mc_2, ms_10, ml_10, laf_2, eaf_2) : Option (Int32 × Int32 × Int32 × Int32 × (Nat → Int32) × (Nat → Int32))))) else (some (ml_10, mc_2, ms_10, ml_10, laf_2, eaf_2) : Option (Int32 × Int32 × Int32 × Int32 × (Nat → Int32) × (Nat → Int32))))))
set_option maxHeartbeats 4000000 in
set_option maxRecDepth 100000 in
theorem k_Mat_look_0 {r_z : Int32} {mc_z : Int32} {ms_z : Int32} {ml_z : Int32} {laf_z : Nat → Int32} {eaf_z : Nat → Int32} (C : Fx p s m args meth c cd_Mat_look 7 R_Mat lw_g (some .int)) (hK : va_K (dC, dI) vwCl [(cB, .byte), (cI, .int), (cJ, .long)] s) (hA : ∀ q, s.heap.size ≤ q → A q) (x1 : Int32) (x2 : Int32) (x3 : Int32) (x4 : Int32) (mc : Int32) (ms : Int32) (ml : Int32) (dn : Int32) (df : Nat → Int32) (laf : Nat → Int32) (eaf : Nat → Int32)  (hf : j_Mat_look_0 N x1 x2 x3 x4 mc dn df laf eaf  = some (r_z, mc_z, ms_z, ml_z, laf_z, eaf_z)) (hP : va_P (dC, dI) vwCl (wd_Mat_look mt d da la ea cB cI cJ mc ms ml dn df laf eaf) H) (hD : va_D A (wd_Mat_look mt d da la ea cB cI cJ mc ms ml dn df laf eaf)) (hS : va_S A s.heap H locs) (hl : lv_has ls 7 [(0, .ref mt), (1, .int x1), (2, .int x2), (3, .int x3), (4, .int x4)]) : W p l e rm_Mat_look s m args below meth c H locs 0 0 (MQ below (sQi (dC, dI) vwCl [(cB, .byte), (cI, .int), (cJ, .long)] A r_z (wd_Mat_look mt d da la ea cB cI cJ mc_z ms_z ml_z dn df laf_z eaf_z)) args s 0 0 A) (F0 m 0 ls []) := by
  obtain ⟨hx, hb, hml, hown, hts, hr, hlocks, hZ⟩ := id C
  unfold j_Mat_look_0 at hf
  refine lv_aload_n hx hb d_Mat_look_0 rfl (lv_at hl 0 rfl) ?_
  refine lv_iload_n hx hb d_Mat_look_1 rfl (lv_at hl 1 rfl) ?_
  obtain ⟨mc_2, laf_2, eaf_2, hc2, hf⟩ := bd3_some hf
  refine s_Vv (As := [.int x1]) (rest := []) (wr := []) (ws' := wd_Mat_look mt d da la ea cB cI cJ mc_2 ms ml dn df laf_2 eaf_2) C.call (c_Mat_chainBelow l dC dI cB cI cJ mt d da la ea  mc ms ml dn df laf eaf x1 hc2) (cwV 1 hts (gd_V w_83 w_84 w_85 w_63 w_86) rfl rfl rfl ⟨rfl, hd_Mat_chainBelow⟩ ⟨Nat.le_of_ble_eq_true rfl, Nat.le_of_ble_eq_true rfl⟩) rfl hl.1 rfl (Nat.le_of_ble_eq_true rfl) d_Mat_look_2 ⟨Nat.le_of_ble_eq_true rfl, Nat.le_of_ble_eq_true rfl⟩ hZ hK hP hD hS hA 3 0 rfl rfl [0, 1, 2, 3, 4] [] [0, 1, 2, 3, 4] rfl rfl rfl rfl (by decide) rfl rfl (fun H locs hP hD hS => ?_)
  refine lv_aload_n hx hb d_Mat_look_5 rfl (lv_at hl 0 rfl) ?_
  refine lv_iload_n hx hb d_Mat_look_6 rfl (lv_at hl 1 rfl) ?_
  refine lv_iload_n hx hb d_Mat_look_7 rfl (lv_at hl 2 rfl) ?_
  refine lv_iload hx hb d_Mat_look_8 (lv_at hl 4 rfl) ?_
  obtain ⟨ms_10, ml_10, hc10, hf⟩ := bd2_some hf
  refine s_Vv (As := [.int x1, .int x2, .int x4]) (rest := []) (wr := []) (ws' := wd_Mat_look mt d da la ea cB cI cJ mc_2 ms_10 ml_10 dn df laf_2 eaf_2) C.call (c_Mat_find l dC dI cB cI cJ mt d da la ea  mc_2 ms ml dn df laf_2 eaf_2 x1 x2 x4 hc10) (cwV 3 hts (gd_V w_87 w_88 w_89 w_63 w_90) rfl rfl rfl ⟨rfl, hd_Mat_find⟩ ⟨Nat.le_of_ble_eq_true rfl, Nat.le_of_ble_eq_true rfl⟩) rfl hl.1 rfl (Nat.le_of_ble_eq_true rfl) d_Mat_look_10 ⟨Nat.le_of_ble_eq_true rfl, Nat.le_of_ble_eq_true rfl⟩ hZ hK hP hD hS hA 3 0 rfl rfl [0, 1, 2, 3, 4] [] [0, 1, 2, 3, 4] rfl rfl rfl rfl (by decide) rfl rfl (fun H locs hP hD hS => ?_)
  refine lv_iload hx hb d_Mat_look_13 (lv_at hl 4 rfl) ?_
  refine lv_iconst (v := 3) hx hb d_Mat_look_15 (by decide) ?_
  refine lv_icmp_ne (tgt := 31) hx hb d_Mat_look_16 (by decide) (fun c_16 => ?_) (fun c_16 => ?_)
  · have hf := br_neg c_16 hf
    refine lv_aload_n hx hb d_Mat_look_31 rfl (lv_at hl 0 rfl) ?_
    refine va_get (D := (dC, dI)) (ci := 3) (v := .int ml_10) (C := R_Mat) (T := T_Mat) (N := 6) hx hb hts w_53 hown hK hP 0 rfl rfl 5 (by decide) (hts _ w_66) (fun _ h9 => h9) rfl d_Mat_look_32 ?_
    cases hf
    exact s_iret hx hb hr hlocks hP hK hD hS d_Mat_look_35
  · have hf := br_pos c_16 hf
    refine lv_aload_n hx hb d_Mat_look_19 rfl (lv_at hl 0 rfl) ?_
    refine va_get (D := (dC, dI)) (ci := 3) (v := .int ml_10) (C := R_Mat) (T := T_Mat) (N := 6) hx hb hts w_53 hown hK hP 0 rfl rfl 5 (by decide) (hts _ w_66) (fun _ h9 => h9) rfl d_Mat_look_20 ?_
    refine lv_if_eq (tgt := 31) hx hb d_Mat_look_23 (by decide) (fun c_23 => ?_) (fun c_23 => ?_)
    · have hf := br_pos c_23 hf
      refine lv_aload_n hx hb d_Mat_look_31 rfl (lv_at hl 0 rfl) ?_
      refine va_get (D := (dC, dI)) (ci := 3) (v := .int ml_10) (C := R_Mat) (T := T_Mat) (N := 6) hx hb hts w_53 hown hK hP 0 rfl rfl 5 (by decide) (hts _ w_66) (fun _ h9 => h9) rfl d_Mat_look_32 ?_
      cases hf
      exact s_iret hx hb hr hlocks hP hK hD hS d_Mat_look_35
    · have hf := br_neg c_23 hf
      refine lv_iload_n hx hb d_Mat_look_26 rfl (lv_at hl 1 rfl) ?_
      refine lv_iload_n hx hb d_Mat_look_27 rfl (lv_at hl 3 rfl) ?_
      refine lv_icmp_lt (tgt := 36) hx hb d_Mat_look_28 (by decide) (fun c_28 => ?_) (fun c_28 => ?_)
      · have hf := br_pos c_28 hf
        refine lv_aload_n hx hb d_Mat_look_36 rfl (lv_at hl 0 rfl) ?_
        refine va_get (D := (dC, dI)) (ci := 3) (v := .int ml_10) (C := R_Mat) (T := T_Mat) (N := 6) hx hb hts w_53 hown hK hP 0 rfl rfl 5 (by decide) (hts _ w_66) (fun _ h9 => h9) rfl d_Mat_look_37 ?_
        refine lv_istore (lv' := [(5, .int ml_10), (0, .ref mt), (1, .int x1), (2, .int x2), (3, .int x3), (4, .int x4)]) hx hb d_Mat_look_40 hl (by decide) rfl (fun ls hl => ?_)
        refine lv_aload_n hx hb d_Mat_look_42 rfl (lv_at hl 1 rfl) ?_
        refine va_get (D := (dC, dI)) (ci := 3) (v := .int ms_10) (C := R_Mat) (T := T_Mat) (N := 6) hx hb hts w_53 hown hK hP 0 rfl rfl 4 (by decide) (hts _ w_67) (fun _ h9 => h9) rfl d_Mat_look_43 ?_
        refine lv_istore (lv' := [(6, .int ms_10), (5, .int ml_10), (0, .ref mt), (1, .int x1), (2, .int x2), (3, .int x3), (4, .int x4)]) hx hb d_Mat_look_46 hl (by decide) rfl (fun ls hl => ?_)
        refine lv_aload_n hx hb d_Mat_look_48 rfl (lv_at hl 2 rfl) ?_
        refine lv_iload_n hx hb d_Mat_look_49 rfl (lv_at hl 3 rfl) ?_
        refine lv_iconst (v := 1) hx hb d_Mat_look_50 (by decide) ?_
        refine lv_iadd hx hb d_Mat_look_51 ?_
        obtain ⟨mc_52, laf_52, eaf_52, hc52, hf⟩ := bd3_some hf
        refine s_Vv (As := [.int (x1 + (1 : Int32))]) (rest := []) (wr := []) (ws' := wd_Mat_look mt d da la ea cB cI cJ mc_52 ms_10 ml_10 dn df laf_52 eaf_52) C.call (c_Mat_chainBelow l dC dI cB cI cJ mt d da la ea  mc_2 ms_10 ml_10 dn df laf_2 eaf_2 (x1 + (1 : Int32)) hc52) (cwV 1 hts (gd_V w_83 w_84 w_85 w_63 w_86) rfl rfl rfl ⟨rfl, hd_Mat_chainBelow⟩ ⟨Nat.le_of_ble_eq_true rfl, Nat.le_of_ble_eq_true rfl⟩) rfl hl.1 rfl (Nat.le_of_ble_eq_true rfl) d_Mat_look_52 ⟨Nat.le_of_ble_eq_true rfl, Nat.le_of_ble_eq_true rfl⟩ hZ hK hP hD hS hA 3 0 rfl rfl [0, 1, 2, 3, 4] [] [0, 1, 2, 3, 4] rfl rfl rfl rfl (by decide) rfl rfl (fun H locs hP hD hS => ?_)
        refine lv_aload_n hx hb d_Mat_look_55 rfl (lv_at hl 2 rfl) ?_
        refine lv_iload_n hx hb d_Mat_look_56 rfl (lv_at hl 3 rfl) ?_
        refine lv_iconst (v := 1) hx hb d_Mat_look_57 (by decide) ?_
        refine lv_iadd hx hb d_Mat_look_58 ?_
        refine lv_iload_n hx hb d_Mat_look_59 rfl (lv_at hl 4 rfl) ?_
        refine lv_iload hx hb d_Mat_look_60 (lv_at hl 6 rfl) ?_
        obtain ⟨ms_62, ml_62, hc62, hf⟩ := bd2_some hf
        refine s_Vv (As := [.int (x1 + (1 : Int32)), .int x2, .int x4]) (rest := []) (wr := []) (ws' := wd_Mat_look mt d da la ea cB cI cJ mc_52 ms_62 ml_62 dn df laf_52 eaf_52) C.call (c_Mat_find l dC dI cB cI cJ mt d da la ea  mc_52 ms_10 ml_10 dn df laf_52 eaf_52 (x1 + (1 : Int32)) x2 x4 hc62) (cwV 3 hts (gd_V w_87 w_88 w_89 w_63 w_90) rfl rfl rfl ⟨rfl, hd_Mat_find⟩ ⟨Nat.le_of_ble_eq_true rfl, Nat.le_of_ble_eq_true rfl⟩) rfl hl.1 rfl (Nat.le_of_ble_eq_true rfl) d_Mat_look_62 ⟨Nat.le_of_ble_eq_true rfl, Nat.le_of_ble_eq_true rfl⟩ hZ hK hP hD hS hA 3 0 rfl rfl [0, 1, 2, 3, 4] [] [0, 1, 2, 3, 4] rfl rfl rfl rfl (by decide) rfl rfl (fun H locs hP hD hS => ?_)
        refine lv_aload_n hx hb d_Mat_look_65 rfl (lv_at hl 2 rfl) ?_
        refine lv_aload_n hx hb d_Mat_look_66 rfl (lv_at hl 2 rfl) ?_
        refine va_get (D := (dC, dI)) (ci := 3) (v := .int ml_62) (C := R_Mat) (T := T_Mat) (N := 6) hx hb hts w_53 hown hK hP 0 rfl rfl 5 (by decide) (hts _ w_66) (fun _ h9 => h9) rfl d_Mat_look_67 ?_
        refine lv_iload hx hb d_Mat_look_70 (lv_at hl 1 rfl) ?_
        refine lv_icmp_le (tgt := 79) hx hb d_Mat_look_72 (by decide) (fun c_72 => ?_) (fun c_72 => ?_)
        · have hf := br_pos c_72 hf
          refine lv_iload hx hb d_Mat_look_79 (lv_at hl 1 rfl) ?_
          exact k_Mat_look_81 C hK hA ms_10 ml_10 mc_52 ms_62 ml_62 dn df laf_52 eaf_52  hf hP hD hS (lv_sub hl [2, 0] rfl)
        · have hf := br_neg c_72 hf
          refine lv_iconst (v := 0) hx hb d_Mat_look_75 (by decide) ?_
          refine lv_goto (tgt := 81) hx hb d_Mat_look_76 (by decide) ?_
          exact k_Mat_look_81 C hK hA ms_10 (0 : Int32) mc_52 ms_62 ml_62 dn df laf_52 eaf_52  hf hP hD hS (lv_sub hl [2, 0] rfl)
      · have hf := br_neg c_28 hf
        refine lv_aload_n hx hb d_Mat_look_31 rfl (lv_at hl 0 rfl) ?_
        refine va_get (D := (dC, dI)) (ci := 3) (v := .int ml_10) (C := R_Mat) (T := T_Mat) (N := 6) hx hb hts w_53 hown hK hP 0 rfl rfl 5 (by decide) (hts _ w_66) (fun _ h9 => h9) rfl d_Mat_look_32 ?_
        cases hf
        exact s_iret hx hb hr hlocks hP hK hD hS d_Mat_look_35
end
noncomputable abbrev f_Mat_look (N : Nat) (x1 : Int32) (x2 : Int32) (x3 : Int32) (x4 : Int32) (mc : Int32) (dn : Int32) (df : Nat → Int32) (laf : Nat → Int32) (eaf : Nat → Int32) : Option (Int32 × Int32 × Int32 × Int32 × (Nat → Int32) × (Nat → Int32)) := j_Mat_look_0 N x1 x2 x3 x4 mc dn df laf eaf
set_option maxRecDepth 100000 in
theorem c_Mat_look {N : Nat} (l : Launch) (dC : Nat → ClassId) (dI : Nat → Nat → Nat) (cB cI cJ : ClassId) (mt d da la ea : Nat) (mc : Int32) (ms : Int32) (ml : Int32) (dn : Int32) (df : Nat → Int32) (laf : Nat → Int32) (eaf : Nat → Int32) (x1 : Int32) (x2 : Int32) (x3 : Int32) (x4 : Int32) {r_z : Int32} {mc_z : Int32} {ms_z : Int32} {ml_z : Int32} {laf_z : Nat → Int32} {eaf_z : Nat → Int32} (hf : f_Mat_look N x1 x2 x3 x4 mc dn df laf eaf = some (r_z, mc_z, ms_z, ml_z, laf_z, eaf_z)) : MetI l y_Mat_look ws_Mat_look rm_Mat_look (dC, dI) vwCl [(cB, .byte), (cI, .int), (cJ, .long)] [.ref mt, .int x1, .int x2, .int x3, .int x4] (wd_Mat_look mt d da la ea cB cI cJ mc ms ml dn df laf eaf) r_z (wd_Mat_look mt d da la ea cB cI cJ mc_z ms_z ml_z dn df laf_z eaf_z) 0 0 :=
  s_ofi (bytes := cd_Mat_look) (maxL := 7) (ret := (some .int)) (by decide) rfl (Nat.le_of_ble_eq_true rfl) (fun p e s m below meth c A ls C hK hA hP hD hS hl => k_Mat_look_0 C hK hA x1 x2 x3 x4 mc ms ml dn df laf eaf hf hP hD hS (lv_sub hl [0, 1, 2, 3, 4] rfl))
