abbrev wd_Mat_look (mt d da la ea : Nat) (cB cI cJ : ClassId) (mc : Int32) (ms : Int32) (ml : Int32) (dn : Int32) (df : Nat → Int32) (laf : Nat → Int32) (eaf : Nat → Int32) : va_W := [(mt, .inr (3, [.ref d, .ref la, .ref ea, .int mc, .int ms, .int ml])), (d, .inr (1, [.ref da, .int dn])), (da, .inl (cB, 16000, .inl df)), (la, .inl (cI, 4096, .inl laf)), (ea, .inl (cI, 16000, .inl eaf))]
abbrev rm_Mat_look : Room := { frames := 3, cells := 0, slots := 0, locals := 64 }
section
variable {p : Program} {l : Launch} {e : Env} {s : State} {m : MethodId} {args : Array Value} {below : List Frame} {meth : Method} {c : Code} {dC : Nat → ClassId} {dI : Nat → Nat → Nat} {A : Nat → Prop} {cB cI cJ : ClassId} {H : Heap} {locs : List Loc} {ls : Array Slot} {N : Nat} {mt d da la ea : Nat}
noncomputable def j_Mat_look_81 (x6 : Int32) (t0 : Int32) (mc : Int32) (laf : Nat → Int32) (eaf : Nat → Int32)  : Option (Int32 × Int32 × Int32 × Int32 × (Nat → Int32) × (Nat → Int32)) :=
  (some (t0, mc, x6, t0, laf, eaf) : Option (Int32 × Int32 × Int32 × Int32 × (Nat → Int32) × (Nat → Int32)))
set_option maxHeartbeats 4000000 in
set_option maxRecDepth 100000 in
theorem k_Mat_look_81 {r_z : Int32} {mc_z : Int32} {ms_z : Int32} {ml_z : Int32} {laf_z : Nat → Int32} {eaf_z : Nat → Int32} (C : Fx p s m args meth c cd_Mat_look 7 R_Mat lw_g (some .int)) (hK : va_K (dC, dI) vwCl [(cB, .byte), (cI, .int), (cJ, .long)] s) (hA : ∀ q, s.heap.size ≤ q → A q) (x6 : Int32) (t0 : Int32) (mc : Int32) (ms : Int32) (ml : Int32) (dn : Int32) (df : Nat → Int32) (laf : Nat → Int32) (eaf : Nat → Int32)  (hf : j_Mat_look_81 x6 t0 mc laf eaf  = some (r_z, mc_z, ms_z, ml_z, laf_z, eaf_z)) (hP : va_P (dC, dI) vwCl (wd_Mat_look mt d da la ea cB cI cJ mc ms ml dn df laf eaf) H) (hD : va_D A (wd_Mat_look mt d da la ea cB cI cJ mc ms ml dn df laf eaf)) (hS : va_S A s.heap H locs) (hl : lv_has ls 7 [(0, .ref mt), (6, .int x6)]) : W p l e rm_Mat_look s m args below meth c H locs 0 0 (MQ below (sQi (dC, dI) vwCl [(cB, .byte), (cI, .int), (cJ, .long)] A r_z (wd_Mat_look mt d da la ea cB cI cJ mc_z ms_z ml_z dn df laf_z eaf_z)) args s 0 0 A) (F0 m 81 ls [.int t0, .ref mt]) := by
  obtain ⟨hx, hb, hml, hown, hts, hr, hlocks, hZ⟩ := id C
  unfold j_Mat_look_81 at hf
  refine va_put (D := (dC, dI)) (ci := 3) (v := .int t0) (ty := .int) (C := R_Mat) (T := T_Mat) (N := 6) hx hb hts w_52 ty_Mat ty_Mat_ok nm_Mat hown hK hP hD hS 0 rfl rfl 5 (by decide) (hts _ w_74) (fun _ h9 => h9) rfl (by decide +kernel) rfl rfl (Nat.le_of_ble_eq_true rfl) d_Mat_look_81 (fun H locs hP hD hS => ?_)
  have hP : va_P (dC, dI) vwCl (wd_Mat_look mt d da la ea cB cI cJ mc ms t0 dn df laf eaf) H := hP
  have hD : va_D A (wd_Mat_look mt d da la ea cB cI cJ mc ms t0 dn df laf eaf) := hD
  refine lv_aload_n hx hb d_Mat_look_84 rfl (lv_at hl 0 rfl) ?_
  refine lv_iload hx hb d_Mat_look_85 (lv_at hl 1 rfl) ?_
  refine va_put (D := (dC, dI)) (ci := 3) (v := .int x6) (ty := .int) (C := R_Mat) (T := T_Mat) (N := 6) hx hb hts w_52 ty_Mat ty_Mat_ok nm_Mat hown hK hP hD hS 0 rfl rfl 4 (by decide) (hts _ w_75) (fun _ h9 => h9) rfl (by decide +kernel) rfl rfl (Nat.le_of_ble_eq_true rfl) d_Mat_look_87 (fun H locs hP hD hS => ?_)
  have hP : va_P (dC, dI) vwCl (wd_Mat_look mt d da la ea cB cI cJ mc x6 t0 dn df laf eaf) H := hP
  have hD : va_D A (wd_Mat_look mt d da la ea cB cI cJ mc x6 t0 dn df laf eaf) := hD
  refine lv_aload_n hx hb d_Mat_look_90 rfl (lv_at hl 0 rfl) ?_
  refine va_get (D := (dC, dI)) (ci := 3) (v := .int t0) (C := R_Mat) (T := T_Mat) (N := 6) hx hb hts w_52 hown hK hP 0 rfl rfl 5 (by decide) (hts _ w_74) (fun _ h9 => h9) rfl d_Mat_look_91 ?_
  cases hf
  exact s_iret hx hb hr hlocks hP hK hD hS d_Mat_look_94
noncomputable def j_Mat_look_0 (N : Nat) (x1 : Int32) (x2 : Int32) (x3 : Int32) (x4 : Int32) (mc : Int32) (dn : Int32) (df : Nat → Int32) (laf : Nat → Int32) (eaf : Nat → Int32)  : Option (Int32 × Int32 × Int32 × Int32 × (Nat → Int32) × (Nat → Int32)) :=
  bd3 (f_Mat_chainBelow N x1 dn df mc laf eaf) (fun mc_2 laf_2 eaf_2 => bd2 (f_Mat_find N x1 x2 x4 dn df laf_2 eaf_2) (fun ms_10 ml_10 => (if x4 = (3 : Int32) then (if ml_10 = 0 then (some (ml_10, mc_2, ms_10, ml_10, laf_2, eaf_2) : Option (Int32 × Int32 × Int32 × Int32 × (Nat → Int32) × (Nat → Int32))) else (if x1 < x3 then bd3 (f_Mat_chainBelow N (x1 + (1 : Int32)) dn df mc_2 laf_2 eaf_2) (fun mc_52 laf_52 eaf_52 => bd2 (f_Mat_find N (x1 + (1 : Int32)) x2 x4 dn df laf_52 eaf_52) (fun ms_62 ml_62 => (if ml_62 ≤ ml_10 then (j_Mat_look_81 ms_10 ml_10 mc_52 laf_52 eaf_52 ) else (j_Mat_look_81 ms_10 (0 : Int32) mc_52 laf_52 eaf_52 )))) else (some (ml_10, mc_2, ms_10, ml_10, laf_2, eaf_2) : Option (Int32 × Int32 × Int32 × Int32 × (Nat → Int32) × (Nat → Int32))))) else (some (ml_10, mc_2, ms_10, ml_10, laf_2, eaf_2) : Option (Int32 × Int32 × Int32 × Int32 × (Nat → Int32) × (Nat → Int32))))))
set_option maxHeartbeats 4000000 in
set_option maxRecDepth 100000 in
theorem k_Mat_look_0 {r_z : Int32} {mc_z : Int32} {ms_z : Int32} {ml_z : Int32} {laf_z : Nat → Int32} {eaf_z : Nat → Int32} (C : Fx p s m args meth c cd_Mat_look 7 R_Mat lw_g (some .int)) (hK : va_K (dC, dI) vwCl [(cB, .byte), (cI, .int), (cJ, .long)] s) (hA : ∀ q, s.heap.size ≤ q → A q) (x1 : Int32) (x2 : Int32) (x3 : Int32) (x4 : Int32) (mc : Int32) (ms : Int32) (ml : Int32) (dn : Int32) (df : Nat → Int32) (laf : Nat → Int32) (eaf : Nat → Int32)  (hf : j_Mat_look_0 N x1 x2 x3 x4 mc dn df laf eaf  = some (r_z, mc_z, ms_z, ml_z, laf_z, eaf_z)) (hP : va_P (dC, dI) vwCl (wd_Mat_look mt d da la ea cB cI cJ mc ms ml dn df laf eaf) H) (hD : va_D A (wd_Mat_look mt d da la ea cB cI cJ mc ms ml dn df laf eaf)) (hS : va_S A s.heap H locs) (hl : lv_has ls 7 [(0, .ref mt), (1, .int x1), (2, .int x2), (3, .int x3), (4, .int x4)]) : W p l e rm_Mat_look s m args below meth c H locs 0 0 (MQ below (sQi (dC, dI) vwCl [(cB, .byte), (cI, .int), (cJ, .long)] A r_z (wd_Mat_look mt d da la ea cB cI cJ mc_z ms_z ml_z dn df laf_z eaf_z)) args s 0 0 A) (F0 m 0 ls []) := by
  obtain ⟨hx, hb, hml, hown, hts, hr, hlocks, hZ⟩ := id C
  unfold j_Mat_look_0 at hf
  refine lv_aload_n hx hb d_Mat_look_0 rfl (lv_at hl 0 rfl) ?_
  refine lv_iload_n hx hb d_Mat_look_1 rfl (lv_at hl 1 rfl) ?_
  obtain ⟨mc_2, laf_2, eaf_2, hc2, hf⟩ := bd3_some hf
  refine s_Vv (As := [.int x1]) (rest := []) (wr := []) (ws' := wd_Mat_look mt d da la ea cB cI cJ mc_2 ms ml dn df laf_2 eaf_2) C.call (c_Mat_chainBelow l dC dI cB cI cJ mt d da la ea  mc ms ml dn df laf eaf x1 hc2) (cwV 1 hts (gd_V w_91 w_92 w_93 w_64 w_94) rfl rfl rfl ⟨rfl, hd_Mat_chainBelow⟩ ⟨Nat.le_of_ble_eq_true rfl, Nat.le_of_ble_eq_true rfl⟩) rfl hl.1 rfl (Nat.le_of_ble_eq_true rfl) d_Mat_look_2 ⟨Nat.le_of_ble_eq_true rfl, Nat.le_of_ble_eq_true rfl⟩ hZ hK hP hD hS hA 3 0 rfl rfl [0, 1, 2, 3, 4] [] [0, 1, 2, 3, 4] rfl rfl rfl rfl (by decide) rfl rfl (fun H locs hP hD hS => ?_)
  refine lv_aload_n hx hb d_Mat_look_5 rfl (lv_at hl 0 rfl) ?_
  refine lv_iload_n hx hb d_Mat_look_6 rfl (lv_at hl 1 rfl) ?_
  refine lv_iload_n hx hb d_Mat_look_7 rfl (lv_at hl 2 rfl) ?_
  refine lv_iload hx hb d_Mat_look_8 (lv_at hl 4 rfl) ?_
  obtain ⟨ms_10, ml_10, hc10, hf⟩ := bd2_some hf
  refine s_Vv (As := [.int x1, .int x2, .int x4]) (rest := []) (wr := []) (ws' := wd_Mat_look mt d da la ea cB cI cJ mc_2 ms_10 ml_10 dn df laf_2 eaf_2) C.call (c_Mat_find l dC dI cB cI cJ mt d da la ea  mc_2 ms ml dn df laf_2 eaf_2 x1 x2 x4 hc10) (cwV 3 hts (gd_V w_95 w_96 w_97 w_64 w_98) rfl rfl rfl ⟨rfl, hd_Mat_find⟩ ⟨Nat.le_of_ble_eq_true rfl, Nat.le_of_ble_eq_true rfl⟩) rfl hl.1 rfl (Nat.le_of_ble_eq_true rfl) d_Mat_look_10 ⟨Nat.le_of_ble_eq_true rfl, Nat.le_of_ble_eq_true rfl⟩ hZ hK hP hD hS hA 3 0 rfl rfl [0, 1, 2, 3, 4] [] [0, 1, 2, 3, 4] rfl rfl rfl rfl (by decide) rfl rfl (fun H locs hP hD hS => ?_)
  refine lv_iload hx hb d_Mat_look_13 (lv_at hl 4 rfl) ?_
  refine lv_iconst (v := 3) hx hb d_Mat_look_15 (by decide) ?_
  refine lv_icmp_ne (tgt := 31) hx hb d_Mat_look_16 (by decide) (fun c_16 => ?_) (fun c_16 => ?_)
  · have hf := br_neg c_16 hf
    refine lv_aload_n hx hb d_Mat_look_31 rfl (lv_at hl 0 rfl) ?_
    refine va_get (D := (dC, dI)) (ci := 3) (v := .int ml_10) (C := R_Mat) (T := T_Mat) (N := 6) hx hb hts w_52 hown hK hP 0 rfl rfl 5 (by decide) (hts _ w_74) (fun _ h9 => h9) rfl d_Mat_look_32 ?_
    cases hf
    exact s_iret hx hb hr hlocks hP hK hD hS d_Mat_look_35
  · have hf := br_pos c_16 hf
    refine lv_aload_n hx hb d_Mat_look_19 rfl (lv_at hl 0 rfl) ?_
    refine va_get (D := (dC, dI)) (ci := 3) (v := .int ml_10) (C := R_Mat) (T := T_Mat) (N := 6) hx hb hts w_52 hown hK hP 0 rfl rfl 5 (by decide) (hts _ w_74) (fun _ h9 => h9) rfl d_Mat_look_20 ?_
    refine lv_if_eq (tgt := 31) hx hb d_Mat_look_23 (by decide) (fun c_23 => ?_) (fun c_23 => ?_)
    · have hf := br_pos c_23 hf
      refine lv_aload_n hx hb d_Mat_look_31 rfl (lv_at hl 0 rfl) ?_
      refine va_get (D := (dC, dI)) (ci := 3) (v := .int ml_10) (C := R_Mat) (T := T_Mat) (N := 6) hx hb hts w_52 hown hK hP 0 rfl rfl 5 (by decide) (hts _ w_74) (fun _ h9 => h9) rfl d_Mat_look_32 ?_
      cases hf
      exact s_iret hx hb hr hlocks hP hK hD hS d_Mat_look_35
    · have hf := br_neg c_23 hf
      refine lv_iload_n hx hb d_Mat_look_26 rfl (lv_at hl 1 rfl) ?_
      refine lv_iload_n hx hb d_Mat_look_27 rfl (lv_at hl 3 rfl) ?_
      refine lv_icmp_lt (tgt := 36) hx hb d_Mat_look_28 (by decide) (fun c_28 => ?_) (fun c_28 => ?_)
      · have hf := br_pos c_28 hf
        refine lv_aload_n hx hb d_Mat_look_36 rfl (lv_at hl 0 rfl) ?_
        refine va_get (D := (dC, dI)) (ci := 3) (v := .int ml_10) (C := R_Mat) (T := T_Mat) (N := 6) hx hb hts w_52 hown hK hP 0 rfl rfl 5 (by decide) (hts _ w_74) (fun _ h9 => h9) rfl d_Mat_look_37 ?_
        refine lv_istore (lv' := [(5, .int ml_10), (0, .ref mt), (1, .int x1), (2, .int x2), (3, .int x3), (4, .int x4)]) hx hb d_Mat_look_40 hl (by decide) rfl (fun ls hl => ?_)
        refine lv_aload_n hx hb d_Mat_look_42 rfl (lv_at hl 1 rfl) ?_
        refine va_get (D := (dC, dI)) (ci := 3) (v := .int ms_10) (C := R_Mat) (T := T_Mat) (N := 6) hx hb hts w_52 hown hK hP 0 rfl rfl 4 (by decide) (hts _ w_75) (fun _ h9 => h9) rfl d_Mat_look_43 ?_
        refine lv_istore (lv' := [(6, .int ms_10), (5, .int ml_10), (0, .ref mt), (1, .int x1), (2, .int x2), (3, .int x3), (4, .int x4)]) hx hb d_Mat_look_46 hl (by decide) rfl (fun ls hl => ?_)
        refine lv_aload_n hx hb d_Mat_look_48 rfl (lv_at hl 2 rfl) ?_
        refine lv_iload_n hx hb d_Mat_look_49 rfl (lv_at hl 3 rfl) ?_
        refine lv_iconst (v := 1) hx hb d_Mat_look_50 (by decide) ?_
        refine lv_iadd hx hb d_Mat_look_51 ?_
        obtain ⟨mc_52, laf_52, eaf_52, hc52, hf⟩ := bd3_some hf
        refine s_Vv (As := [.int (x1 + (1 : Int32))]) (rest := []) (wr := []) (ws' := wd_Mat_look mt d da la ea cB cI cJ mc_52 ms_10 ml_10 dn df laf_52 eaf_52) C.call (c_Mat_chainBelow l dC dI cB cI cJ mt d da la ea  mc_2 ms_10 ml_10 dn df laf_2 eaf_2 (x1 + (1 : Int32)) hc52) (cwV 1 hts (gd_V w_91 w_92 w_93 w_64 w_94) rfl rfl rfl ⟨rfl, hd_Mat_chainBelow⟩ ⟨Nat.le_of_ble_eq_true rfl, Nat.le_of_ble_eq_true rfl⟩) rfl hl.1 rfl (Nat.le_of_ble_eq_true rfl) d_Mat_look_52 ⟨Nat.le_of_ble_eq_true rfl, Nat.le_of_ble_eq_true rfl⟩ hZ hK hP hD hS hA 3 0 rfl rfl [0, 1, 2, 3, 4] [] [0, 1, 2, 3, 4] rfl rfl rfl rfl (by decide) rfl rfl (fun H locs hP hD hS => ?_)
        refine lv_aload_n hx hb d_Mat_look_55 rfl (lv_at hl 2 rfl) ?_
        refine lv_iload_n hx hb d_Mat_look_56 rfl (lv_at hl 3 rfl) ?_
        refine lv_iconst (v := 1) hx hb d_Mat_look_57 (by decide) ?_
        refine lv_iadd hx hb d_Mat_look_58 ?_
        refine lv_iload_n hx hb d_Mat_look_59 rfl (lv_at hl 4 rfl) ?_
        refine lv_iload hx hb d_Mat_look_60 (lv_at hl 6 rfl) ?_
        obtain ⟨ms_62, ml_62, hc62, hf⟩ := bd2_some hf
        refine s_Vv (As := [.int (x1 + (1 : Int32)), .int x2, .int x4]) (rest := []) (wr := []) (ws' := wd_Mat_look mt d da la ea cB cI cJ mc_52 ms_62 ml_62 dn df laf_52 eaf_52) C.call (c_Mat_find l dC dI cB cI cJ mt d da la ea  mc_52 ms_10 ml_10 dn df laf_52 eaf_52 (x1 + (1 : Int32)) x2 x4 hc62) (cwV 3 hts (gd_V w_95 w_96 w_97 w_64 w_98) rfl rfl rfl ⟨rfl, hd_Mat_find⟩ ⟨Nat.le_of_ble_eq_true rfl, Nat.le_of_ble_eq_true rfl⟩) rfl hl.1 rfl (Nat.le_of_ble_eq_true rfl) d_Mat_look_62 ⟨Nat.le_of_ble_eq_true rfl, Nat.le_of_ble_eq_true rfl⟩ hZ hK hP hD hS hA 3 0 rfl rfl [0, 1, 2, 3, 4] [] [0, 1, 2, 3, 4] rfl rfl rfl rfl (by decide) rfl rfl (fun H locs hP hD hS => ?_)
        refine lv_aload_n hx hb d_Mat_look_65 rfl (lv_at hl 2 rfl) ?_
        refine lv_aload_n hx hb d_Mat_look_66 rfl (lv_at hl 2 rfl) ?_
        refine va_get (D := (dC, dI)) (ci := 3) (v := .int ml_62) (C := R_Mat) (T := T_Mat) (N := 6) hx hb hts w_52 hown hK hP 0 rfl rfl 5 (by decide) (hts _ w_74) (fun _ h9 => h9) rfl d_Mat_look_67 ?_
        refine lv_iload hx hb d_Mat_look_70 (lv_at hl 1 rfl) ?_
        refine lv_icmp_le (tgt := 79) hx hb d_Mat_look_72 (by decide) (fun c_72 => ?_) (fun c_72 => ?_)
        · have hf := br_pos c_72 hf
          refine lv_iload hx hb d_Mat_look_79 (lv_at hl 1 rfl) ?_
          exact k_Mat_look_81 C hK hA ms_10 ml_10 mc_52 ms_62 ml_62 dn df laf_52 eaf_52  hf hP hD hS (lv_sub hl [2, 0] rfl)
        · have hf := br_neg c_72 hf
          refine lv_iconst (v := 0) hx hb d_Mat_look_75 (by decide) ?_
          refine lv_goto (tgt := 81) hx hb d_Mat_look_76 (by decide) ?_
          exact k_Mat_look_81 C hK hA ms_10 (0 : Int32) mc_52 ms_62 ml_62 dn df laf_52 eaf_52  hf hP hD hS (lv_sub hl [2, 0] rfl)
      · have hf := br_neg c_28 hf
        refine lv_aload_n hx hb d_Mat_look_31 rfl (lv_at hl 0 rfl) ?_
        refine va_get (D := (dC, dI)) (ci := 3) (v := .int ml_10) (C := R_Mat) (T := T_Mat) (N := 6) hx hb hts w_52 hown hK hP 0 rfl rfl 5 (by decide) (hts _ w_74) (fun _ h9 => h9) rfl d_Mat_look_32 ?_
        cases hf
        exact s_iret hx hb hr hlocks hP hK hD hS d_Mat_look_35
end
noncomputable abbrev f_Mat_look (N : Nat) (x1 : Int32) (x2 : Int32) (x3 : Int32) (x4 : Int32) (mc : Int32) (dn : Int32) (df : Nat → Int32) (laf : Nat → Int32) (eaf : Nat → Int32) : Option (Int32 × Int32 × Int32 × Int32 × (Nat → Int32) × (Nat → Int32)) := j_Mat_look_0 N x1 x2 x3 x4 mc dn df laf eaf
set_option maxRecDepth 100000 in
theorem c_Mat_look {N : Nat} (l : Launch) (dC : Nat → ClassId) (dI : Nat → Nat → Nat) (cB cI cJ : ClassId) (mt d da la ea : Nat) (mc : Int32) (ms : Int32) (ml : Int32) (dn : Int32) (df : Nat → Int32) (laf : Nat → Int32) (eaf : Nat → Int32) (x1 : Int32) (x2 : Int32) (x3 : Int32) (x4 : Int32) {r_z : Int32} {mc_z : Int32} {ms_z : Int32} {ml_z : Int32} {laf_z : Nat → Int32} {eaf_z : Nat → Int32} (hf : f_Mat_look N x1 x2 x3 x4 mc dn df laf eaf = some (r_z, mc_z, ms_z, ml_z, laf_z, eaf_z)) : MetI l y_Mat_look ws_Mat_look rm_Mat_look (dC, dI) vwCl [(cB, .byte), (cI, .int), (cJ, .long)] [.ref mt, .int x1, .int x2, .int x3, .int x4] (wd_Mat_look mt d da la ea cB cI cJ mc ms ml dn df laf eaf) r_z (wd_Mat_look mt d da la ea cB cI cJ mc_z ms_z ml_z dn df laf_z eaf_z) 0 0 :=
  s_ofi (bytes := cd_Mat_look) (maxL := 7) (ret := (some .int)) (by decide) rfl (Nat.le_of_ble_eq_true rfl) (fun p e s m below meth c A ls C hK hA hP hD hS hl => k_Mat_look_0 C hK hA x1 x2 x3 x4 mc ms ml dn df laf eaf hf hP hD hS (lv_sub hl [0, 1, 2, 3, 4] rfl))

abbrev wd_Mat_source (mt d la ea : Nat) (cB cI cJ : ClassId) (mc : Int32) (ms : Int32) (ml : Int32) : va_W := [(mt, .inr (3, [.ref d, .ref la, .ref ea, .int mc, .int ms, .int ml]))]
abbrev rm_Mat_source : Room := { frames := 0, cells := 0, slots := 0, locals := 0 }
section
variable {p : Program} {l : Launch} {e : Env} {s : State} {m : MethodId} {args : Array Value} {below : List Frame} {meth : Method} {c : Code} {dC : Nat → ClassId} {dI : Nat → Nat → Nat} {A : Nat → Prop} {cB cI cJ : ClassId} {H : Heap} {locs : List Loc} {ls : Array Slot} {N : Nat} {mt d la ea : Nat}
noncomputable def j_Mat_source_0 (ms : Int32)  : Option (Int32) :=
  (some ms : Option (Int32))
set_option maxHeartbeats 4000000 in
set_option maxRecDepth 100000 in
theorem k_Mat_source_0 {r_z : Int32} (C : Fx p s m args meth c cd_Mat_source 1 R_Mat lw_g (some .int)) (hK : va_K (dC, dI) vwCl [(cB, .byte), (cI, .int), (cJ, .long)] s) (hA : ∀ q, s.heap.size ≤ q → A q) (mc : Int32) (ms : Int32) (ml : Int32)  (hf : j_Mat_source_0 ms  = some r_z) (hP : va_P (dC, dI) vwCl (wd_Mat_source mt d la ea cB cI cJ mc ms ml) H) (hD : va_D A (wd_Mat_source mt d la ea cB cI cJ mc ms ml)) (hS : va_S A s.heap H locs) (hl : lv_has ls 1 [(0, .ref mt)]) : W p l e rm_Mat_source s m args below meth c H locs 0 0 (MQ below (sQi (dC, dI) vwCl [(cB, .byte), (cI, .int), (cJ, .long)] A r_z (wd_Mat_source mt d la ea cB cI cJ mc ms ml)) args s 0 0 A) (F0 m 0 ls []) := by
  obtain ⟨hx, hb, hml, hown, hts, hr, hlocks, hZ⟩ := id C
  unfold j_Mat_source_0 at hf
  refine lv_aload_n hx hb d_Mat_source_0 rfl (lv_at hl 0 rfl) ?_
  refine va_get (D := (dC, dI)) (ci := 3) (v := .int ms) (C := R_Mat) (T := T_Mat) (N := 6) hx hb hts w_52 hown hK hP 0 rfl rfl 4 (by decide) (hts _ w_75) (fun _ h9 => h9) rfl d_Mat_source_1 ?_
  cases hf
  exact s_iret hx hb hr hlocks hP hK hD hS d_Mat_source_4
end
noncomputable abbrev f_Mat_source (ms : Int32) : Option (Int32) := j_Mat_source_0 ms
set_option maxRecDepth 100000 in
theorem c_Mat_source (l : Launch) (dC : Nat → ClassId) (dI : Nat → Nat → Nat) (cB cI cJ : ClassId) (mt d la ea : Nat) (mc : Int32) (ms : Int32) (ml : Int32)  {r_z : Int32} (hf : f_Mat_source ms = some r_z) : MetI l y_Mat_source ws_Mat_source rm_Mat_source (dC, dI) vwCl [(cB, .byte), (cI, .int), (cJ, .long)] [.ref mt] (wd_Mat_source mt d la ea cB cI cJ mc ms ml) r_z (wd_Mat_source mt d la ea cB cI cJ mc ms ml) 0 0 :=
  s_ofi (bytes := cd_Mat_source) (maxL := 1) (ret := (some .int)) (by decide) rfl (Nat.le_of_ble_eq_true rfl) (fun p e s m below meth c A ls C hK hA hP hD hS hl => k_Mat_source_0 C hK hA mc ms ml hf hP hD hS (lv_sub hl [0] rfl))

abbrev wd_Mat_startOver (mt d da la hs hsa ea : Nat) (cB cI cJ : ClassId) (mc : Int32) (ms : Int32) (ml : Int32) (dn : Int32) (df : Nat → Int32) (laf : Nat → Int32) (hsn : Int32) (hsf : Nat → Int32) : va_W := [(mt, .inr (3, [.ref d, .ref la, .ref ea, .int mc, .int ms, .int ml])), (d, .inr (1, [.ref da, .int dn])), (da, .inl (cB, 16000, .inl df)), (la, .inl (cI, 4096, .inl laf)), (hs, .inr (1, [.ref hsa, .int hsn])), (hsa, .inl (cB, 8000, .inl hsf))]
abbrev rm_Mat_startOver : Room := { frames := 3, cells := 0, slots := 0, locals := 63 }
section
variable {p : Program} {l : Launch} {e : Env} {s : State} {m : MethodId} {args : Array Value} {below : List Frame} {meth : Method} {c : Code} {dC : Nat → ClassId} {dI : Nat → Nat → Nat} {A : Nat → Prop} {cB cI cJ : ClassId} {H : Heap} {locs : List Loc} {ls : Array Slot} {N : Nat} {mt d da la hs hsa ea : Nat}
noncomputable def j_Mat_startOver_0 (N : Nat) (dn : Int32) (df : Nat → Int32) (laf : Nat → Int32) (hsn : Int32) (hsf : Nat → Int32)  : Option (Int32 × Int32 × (Nat → Int32) × (Nat → Int32)) :=
  bd2 (f_Row_become 16000 8000 dn df hsn hsf) (fun dn_5 df_5 => bd1 (f_Arr_fill N 4096 (-1 : Int32) laf) (fun laf_13 => (some ((0 : Int32), dn_5, df_5, laf_13) : Option (Int32 × Int32 × (Nat → Int32) × (Nat → Int32)))))
set_option maxHeartbeats 4000000 in
set_option maxRecDepth 100000 in
theorem k_Mat_startOver_0 {mc_z : Int32} {dn_z : Int32} {df_z : Nat → Int32} {laf_z : Nat → Int32} (C : Fx p s m args meth c cd_Mat_startOver 2 R_Mat lw_g none) (hK : va_K (dC, dI) vwCl [(cB, .byte), (cI, .int), (cJ, .long)] s) (hA : ∀ q, s.heap.size ≤ q → A q) (mc : Int32) (ms : Int32) (ml : Int32) (dn : Int32) (df : Nat → Int32) (laf : Nat → Int32) (hsn : Int32) (hsf : Nat → Int32)  (hf : j_Mat_startOver_0 N dn df laf hsn hsf  = some (mc_z, dn_z, df_z, laf_z)) (hP : va_P (dC, dI) vwCl (wd_Mat_startOver mt d da la hs hsa ea cB cI cJ mc ms ml dn df laf hsn hsf) H) (hD : va_D A (wd_Mat_startOver mt d da la hs hsa ea cB cI cJ mc ms ml dn df laf hsn hsf)) (hS : va_S A s.heap H locs) (hl : lv_has ls 2 [(0, .ref mt), (1, .ref hs)]) : W p l e rm_Mat_startOver s m args below meth c H locs 0 0 (MQ below (sQv (dC, dI) vwCl [(cB, .byte), (cI, .int), (cJ, .long)] A (wd_Mat_startOver mt d da la hs hsa ea cB cI cJ mc_z ms ml dn_z df_z laf_z hsn hsf)) args s 0 0 A) (F0 m 0 ls []) := by
  obtain ⟨hx, hb, hml, hown, hts, hr, hlocks, hZ⟩ := id C
  unfold j_Mat_startOver_0 at hf
  refine lv_aload_n hx hb d_Mat_startOver_0 rfl (lv_at hl 0 rfl) ?_
  refine va_get (D := (dC, dI)) (ci := 3) (v := .ref d) (C := R_Mat) (T := T_Mat) (N := 6) hx hb hts w_52 hown hK hP 0 rfl rfl 0 (by decide) (hts _ w_57) (fun _ h9 => h9) rfl d_Mat_startOver_1 ?_
  refine lv_aload_n hx hb d_Mat_startOver_4 rfl (lv_at hl 1 rfl) ?_
  obtain ⟨dn_5, df_5, hc5, hf⟩ := bd2_some hf
  refine s_Vv (As := [.ref hs]) (rest := []) (wr := [(mt, .inr (3, [.ref d, .ref la, .ref ea, .int mc, .int ms, .int ml])), (la, .inl (cI, 4096, .inl laf))]) (ws' := wd_Mat_startOver mt d da la hs hsa ea cB cI cJ mc ms ml dn_5 df_5 laf hsn hsf) C.call (c_Row_become l dC dI cB cI cJ d da hs hsa 16000 8000 dn df hsn hsf  hc5) (cwV 1 hts (gd_V w_117 w_37 w_38 w_12 w_39) rfl rfl rfl ⟨rfl, hd_Row_become⟩ ⟨Nat.le_of_ble_eq_true rfl, Nat.le_of_ble_eq_true rfl⟩) rfl hl.1 rfl (Nat.le_of_ble_eq_true rfl) d_Mat_startOver_5 ⟨Nat.le_of_ble_eq_true rfl, Nat.le_of_ble_eq_true rfl⟩ hZ hK hP hD hS hA 1 1 rfl rfl [1, 2, 4, 5] [0, 3] [0, 2, 3, 1, 4, 5] rfl rfl rfl rfl (by decide) rfl rfl (fun H locs hP hD hS => ?_)
  refine lv_aload_n hx hb d_Mat_startOver_8 rfl (lv_at hl 0 rfl) ?_
  refine va_get (D := (dC, dI)) (ci := 3) (v := .ref la) (C := R_Mat) (T := T_Mat) (N := 6) hx hb hts w_52 hown hK hP 0 rfl rfl 1 (by decide) (hts _ w_53) (fun _ h9 => h9) rfl d_Mat_startOver_9 ?_
  refine lv_iconst (v := -1) hx hb d_Mat_startOver_12 (by decide) ?_
  obtain ⟨laf_13, hc13, hf⟩ := bd1_some hf
  refine s_Sv (As := [.ref la, .int (-1 : Int32)]) (rest := []) (wr := [(mt, .inr (3, [.ref d, .ref la, .ref ea, .int mc, .int ms, .int ml])), (d, .inr (1, [.ref da, .int dn_5])), (da, .inl (cB, 16000, .inl df_5)), (hs, .inr (1, [.ref hsa, .int hsn])), (hsa, .inl (cB, 8000, .inl hsf))]) (ws' := wd_Mat_startOver mt d da la hs hsa ea cB cI cJ mc ms ml dn_5 df_5 laf_13 hsn hsf) C.call (c_Arr_fill l dC dI cB cI cJ la 4096 laf (-1 : Int32) hc13) (va_cwS 2 hts (gd_S w_118 w_119 w_120 w_121) rfl rfl rfl hd_Arr_fill ⟨Nat.le_of_ble_eq_true rfl, Nat.le_of_ble_eq_true rfl⟩) rfl hl.1 rfl (Nat.le_of_ble_eq_true rfl) d_Mat_startOver_13 ⟨Nat.le_of_ble_eq_true rfl, Nat.le_of_ble_eq_true rfl⟩ hZ hK hP hD hS hA [3] [0, 1, 2, 4, 5] [0, 1, 2, 5, 3, 4] rfl rfl rfl rfl (by decide) rfl rfl (fun H locs hP hD hS => ?_)
  refine lv_aload_n hx hb d_Mat_startOver_16 rfl (lv_at hl 0 rfl) ?_
  refine lv_iconst (v := 0) hx hb d_Mat_startOver_17 (by decide) ?_
  refine va_put (D := (dC, dI)) (ci := 3) (v := .int (0 : Int32)) (ty := .int) (C := R_Mat) (T := T_Mat) (N := 6) hx hb hts w_52 ty_Mat ty_Mat_ok nm_Mat hown hK hP hD hS 0 rfl rfl 3 (by decide) (hts _ w_55) (fun _ h9 => h9) rfl (by decide +kernel) rfl rfl (Nat.le_of_ble_eq_true rfl) d_Mat_startOver_18 (fun H locs hP hD hS => ?_)
  have hP : va_P (dC, dI) vwCl (wd_Mat_startOver mt d da la hs hsa ea cB cI cJ (0 : Int32) ms ml dn_5 df_5 laf_13 hsn hsf) H := hP
  have hD : va_D A (wd_Mat_startOver mt d da la hs hsa ea cB cI cJ (0 : Int32) ms ml dn_5 df_5 laf_13 hsn hsf) := hD
  cases hf
  exact s_vret hx hb hr hlocks hP hK hD hS d_Mat_startOver_21
end
noncomputable abbrev f_Mat_startOver (N : Nat) (dn : Int32) (df : Nat → Int32) (laf : Nat → Int32) (hsn : Int32) (hsf : Nat → Int32) : Option (Int32 × Int32 × (Nat → Int32) × (Nat → Int32)) := j_Mat_startOver_0 N dn df laf hsn hsf
set_option maxRecDepth 100000 in
theorem c_Mat_startOver {N : Nat} (l : Launch) (dC : Nat → ClassId) (dI : Nat → Nat → Nat) (cB cI cJ : ClassId) (mt d da la hs hsa ea : Nat) (mc : Int32) (ms : Int32) (ml : Int32) (dn : Int32) (df : Nat → Int32) (laf : Nat → Int32) (hsn : Int32) (hsf : Nat → Int32)  {mc_z : Int32} {dn_z : Int32} {df_z : Nat → Int32} {laf_z : Nat → Int32} (hf : f_Mat_startOver N dn df laf hsn hsf = some (mc_z, dn_z, df_z, laf_z)) : MetV l y_Mat_startOver ws_Mat_startOver rm_Mat_startOver (dC, dI) vwCl [(cB, .byte), (cI, .int), (cJ, .long)] [.ref mt, .ref hs] (wd_Mat_startOver mt d da la hs hsa ea cB cI cJ mc ms ml dn df laf hsn hsf)  (wd_Mat_startOver mt d da la hs hsa ea cB cI cJ mc_z ms ml dn_z df_z laf_z hsn hsf) 0 0 :=
  s_ofv (bytes := cd_Mat_startOver) (maxL := 2) (ret := none) (by decide) rfl (Nat.le_of_ble_eq_true rfl) (fun p e s m below meth c A ls C hK hA hP hD hS hl => k_Mat_startOver_0 C hK hA mc ms ml dn df laf hsn hsf hf hP hD hS (lv_sub hl [0, 1] rfl))

abbrev wd_Mat_cutTo (mt d da la ea : Nat) (cB cI cJ : ClassId) (mc : Int32) (ms : Int32) (ml : Int32) (dn : Int32) (df : Nat → Int32) (laf : Nat → Int32) (eaf : Nat → Int32) : va_W := [(mt, .inr (3, [.ref d, .ref la, .ref ea, .int mc, .int ms, .int ml])), (d, .inr (1, [.ref da, .int dn])), (da, .inl (cB, 16000, .inl df)), (la, .inl (cI, 4096, .inl laf)), (ea, .inl (cI, 16000, .inl eaf))]
abbrev rm_Mat_cutTo : Room := { frames := 2, cells := 0, slots := 0, locals := 36 }
section
variable {p : Program} {l : Launch} {e : Env} {s : State} {m : MethodId} {args : Array Value} {below : List Frame} {meth : Method} {c : Code} {dC : Nat → ClassId} {dI : Nat → Nat → Nat} {A : Nat → Prop} {cB cI cJ : ClassId} {H : Heap} {locs : List Loc} {ls : Array Slot} {N : Nat} {mt d da la ea : Nat}
noncomputable def b_Mat_cutTo_23 (x1 : Int32) (x2 : Int32) (mc : Int32) (dn : Int32) (df : Nat → Int32) (eaf : Nat → Int32)  (kh23 : Int32 → (Nat → Int32) → Option (Int32 × Int32 × (Nat → Int32))) (x3 : Int32) (laf : Nat → Int32) : Option (Int32 × Int32 × (Nat → Int32)) :=
  (if x3 < x2 then bd1 (f_Row_cutTo x1 dn) (fun dn_72 => (some ((mn mc x2), dn_72, laf) : Option (Int32 × Int32 × (Nat → Int32)))) else bd1 (f_Row_word 16000 x3 dn df) (fun r34 => bd1 (f_Mat_slot r34) (fun r37 => as_ (vp_in x3 16000) (bd1 (f_Mat_setLatest r37 (eaf x3.toNatClampNeg) laf) (fun laf_46 => (kh23 (x3 + (-1)) laf_46))))))
set_option maxHeartbeats 4000000 in
set_option maxRecDepth 100000 in
theorem k_Mat_cutTo_23 {mc_z : Int32} {dn_z : Int32} {laf_z : Nat → Int32} (C : Fx p s m args meth c cd_Mat_cutTo 4 R_Mat lw_g none) (hK : va_K (dC, dI) vwCl [(cB, .byte), (cI, .int), (cJ, .long)] s) (hA : ∀ q, s.heap.size ≤ q → A q) (x1 : Int32) (x2 : Int32) (mc : Int32) (ms : Int32) (ml : Int32) (dn : Int32) (df : Nat → Int32) (eaf : Nat → Int32)  : ∀ (n : Nat) (x3 : Int32) (laf : Nat → Int32), loop2 (b_Mat_cutTo_23 x1 x2 mc dn df eaf ) n x3 laf = some (mc_z, dn_z, laf_z) → ∀ (H : Heap) (locs : List Loc), va_P (dC, dI) vwCl (wd_Mat_cutTo mt d da la ea cB cI cJ mc ms ml dn df laf eaf) H → va_D A (wd_Mat_cutTo mt d da la ea cB cI cJ mc ms ml dn df laf eaf) → va_S A s.heap H locs → ∀ (ls : Array Slot), lv_has ls 4 [(0, .ref mt), (1, .int x1), (2, .int x2), (3, .int x3)] → W p l e rm_Mat_cutTo s m args below meth c H locs 0 0 (MQ below (sQv (dC, dI) vwCl [(cB, .byte), (cI, .int), (cJ, .long)] A (wd_Mat_cutTo mt d da la ea cB cI cJ mc_z ms ml dn_z df laf_z eaf)) args s 0 0 A) (F0 m 23 ls []) := by
  obtain ⟨hx, hb, hml, hown, hts, hr, hlocks, hZ⟩ := id C
  intro n
  induction n with
  | zero => intro x3 laf hf; cases hf
  | succ n ih23 =>
    intro x3 laf hf H locs hP hD hS ls hl
    have hf : b_Mat_cutTo_23 x1 x2 mc dn df eaf  (loop2 (b_Mat_cutTo_23 x1 x2 mc dn df eaf ) n) x3 laf = some (mc_z, dn_z, laf_z) := hf
    generalize loop2 (b_Mat_cutTo_23 x1 x2 mc dn df eaf ) n = kh23 at hf ih23
    unfold b_Mat_cutTo_23 at hf
    refine lv_iload_n hx hb d_Mat_cutTo_23 rfl (lv_at hl 3 rfl) ?_
    refine lv_iload_n hx hb d_Mat_cutTo_24 rfl (lv_at hl 2 rfl) ?_
    refine lv_icmp_lt (tgt := 55) hx hb d_Mat_cutTo_25 (by decide) (fun c_25 => ?_) (fun c_25 => ?_)
    · have hf := br_pos c_25 hf
      refine lv_aload_n hx hb d_Mat_cutTo_55 rfl (lv_at hl 0 rfl) ?_
      refine lv_aload_n hx hb d_Mat_cutTo_56 rfl (lv_at hl 0 rfl) ?_
      refine va_get (D := (dC, dI)) (ci := 3) (v := .int mc) (C := R_Mat) (T := T_Mat) (N := 6) hx hb hts w_52 hown hK hP 0 rfl rfl 3 (by decide) (hts _ w_55) (fun _ h9 => h9) rfl d_Mat_cutTo_57 ?_
      refine lv_iload_n hx hb d_Mat_cutTo_60 rfl (lv_at hl 2 rfl) ?_
      refine s_mmin hx hb (hml.trans hl.1.symm) hown (hts _ w_180) (hts _ w_23) (hts _ w_24) (hts _ w_25) (Nat.le_of_ble_eq_true rfl) (Nat.le_of_ble_eq_true rfl) (Nat.zero_le _) (Nat.zero_le _) d_Mat_cutTo_61 ?_
      refine va_put (D := (dC, dI)) (ci := 3) (v := .int (mn mc x2)) (ty := .int) (C := R_Mat) (T := T_Mat) (N := 6) hx hb hts w_52 ty_Mat ty_Mat_ok nm_Mat hown hK hP hD hS 0 rfl rfl 3 (by decide) (hts _ w_55) (fun _ h9 => h9) rfl (by decide +kernel) rfl rfl (Nat.le_of_ble_eq_true rfl) d_Mat_cutTo_64 (fun H locs hP hD hS => ?_)
      have hP : va_P (dC, dI) vwCl (wd_Mat_cutTo mt d da la ea cB cI cJ (mn mc x2) ms ml dn df laf eaf) H := hP
      have hD : va_D A (wd_Mat_cutTo mt d da la ea cB cI cJ (mn mc x2) ms ml dn df laf eaf) := hD
      refine lv_aload_n hx hb d_Mat_cutTo_67 rfl (lv_at hl 0 rfl) ?_
      refine va_get (D := (dC, dI)) (ci := 3) (v := .ref d) (C := R_Mat) (T := T_Mat) (N := 6) hx hb hts w_52 hown hK hP 0 rfl rfl 0 (by decide) (hts _ w_57) (fun _ h9 => h9) rfl d_Mat_cutTo_68 ?_
      refine lv_iload_n hx hb d_Mat_cutTo_71 rfl (lv_at hl 1 rfl) ?_
      obtain ⟨dn_72, hc72, hf⟩ := bd1_some hf
      refine s_Vv (As := [.int x1]) (rest := []) (wr := [(mt, .inr (3, [.ref d, .ref la, .ref ea, .int (mn mc x2), .int ms, .int ml])), (da, .inl (cB, 16000, .inl df)), (la, .inl (cI, 4096, .inl laf)), (ea, .inl (cI, 16000, .inl eaf))]) (ws' := wd_Mat_cutTo mt d da la ea cB cI cJ (mn mc x2) ms ml dn_72 df laf eaf) C.call (c_Row_cutTo l dC dI cB cI cJ d da  dn x1 hc72) (cwV 1 hts (gd_V w_181 w_30 w_31 w_12 w_32) rfl rfl rfl ⟨rfl, hd_Row_cutTo⟩ ⟨Nat.le_of_ble_eq_true rfl, Nat.le_of_ble_eq_true rfl⟩) rfl hl.1 rfl (Nat.le_of_ble_eq_true rfl) d_Mat_cutTo_72 ⟨Nat.le_of_ble_eq_true rfl, Nat.le_of_ble_eq_true rfl⟩ hZ hK hP hD hS hA 1 1 rfl rfl [1] [0, 2, 3, 4] [0, 4, 1, 2, 3] rfl rfl rfl rfl (by decide) rfl rfl (fun H locs hP hD hS => ?_)
      cases hf
      exact s_vret hx hb hr hlocks hP hK hD hS d_Mat_cutTo_75
    · have hf := br_neg c_25 hf
      refine lv_aload_n hx hb d_Mat_cutTo_28 rfl (lv_at hl 0 rfl) ?_
      refine lv_aload_n hx hb d_Mat_cutTo_29 rfl (lv_at hl 0 rfl) ?_
      refine va_get (D := (dC, dI)) (ci := 3) (v := .ref d) (C := R_Mat) (T := T_Mat) (N := 6) hx hb hts w_52 hown hK hP 0 rfl rfl 0 (by decide) (hts _ w_57) (fun _ h9 => h9) rfl d_Mat_cutTo_30 ?_
      refine lv_iload_n hx hb d_Mat_cutTo_33 rfl (lv_at hl 3 rfl) ?_
      obtain ⟨r34, hc34, hf⟩ := bd1_some hf
      refine s_Vi (As := [.int x3]) (rest := [.ref mt]) (wr := [(mt, .inr (3, [.ref d, .ref la, .ref ea, .int mc, .int ms, .int ml])), (la, .inl (cI, 4096, .inl laf)), (ea, .inl (cI, 16000, .inl eaf))]) (ws' := wd_Mat_cutTo mt d da la ea cB cI cJ mc ms ml dn df laf eaf) C.call (c_Row_word l dC dI cB cI cJ d da 16000 dn df x3 hc34) (cwV 1 hts (gd_V w_58 w_59 w_60 w_12 w_61) rfl rfl rfl ⟨rfl, hd_Row_word⟩ ⟨Nat.le_of_ble_eq_true rfl, Nat.le_of_ble_eq_true rfl⟩) rfl hl.1 rfl (Nat.le_of_ble_eq_true rfl) d_Mat_cutTo_34 ⟨Nat.le_of_ble_eq_true rfl, Nat.le_of_ble_eq_true rfl⟩ hZ hK hP hD hS hA 1 1 rfl rfl [1, 2] [0, 3, 4] [0, 3, 4, 1, 2] rfl rfl rfl rfl (by decide) rfl rfl (fun H locs hP hD hS => ?_)
      obtain ⟨r37, hc37, hf⟩ := bd1_some hf
      refine s_Si (As := [.int r34]) (rest := [.ref mt]) (wr := [(mt, .inr (3, [.ref d, .ref la, .ref ea, .int mc, .int ms, .int ml])), (d, .inr (1, [.ref da, .int dn])), (da, .inl (cB, 16000, .inl df)), (la, .inl (cI, 4096, .inl laf)), (ea, .inl (cI, 16000, .inl eaf))]) (ws' := wd_Mat_cutTo mt d da la ea cB cI cJ mc ms ml dn df laf eaf) C.call (c_Mat_slot l dC dI cB cI cJ    r34 hc37) (va_cwS 1 hts (gd_S w_62 w_63 w_64 w_65) rfl rfl rfl hd_Mat_slot ⟨Nat.le_of_ble_eq_true rfl, Nat.le_of_ble_eq_true rfl⟩) rfl hl.1 rfl (Nat.le_of_ble_eq_true rfl) d_Mat_cutTo_37 ⟨Nat.le_of_ble_eq_true rfl, Nat.le_of_ble_eq_true rfl⟩ hZ hK hP hD hS hA [] [0, 1, 2, 3, 4] [0, 1, 2, 3, 4] rfl rfl rfl rfl (by decide) rfl rfl (fun H locs hP hD hS => ?_)
      refine lv_aload_n hx hb d_Mat_cutTo_40 rfl (lv_at hl 0 rfl) ?_
      refine va_get (D := (dC, dI)) (ci := 3) (v := .ref ea) (C := R_Mat) (T := T_Mat) (N := 6) hx hb hts w_52 hown hK hP 0 rfl rfl 2 (by decide) (hts _ w_56) (fun _ h9 => h9) rfl d_Mat_cutTo_41 ?_
      refine lv_iload_n hx hb d_Mat_cutTo_44 rfl (lv_at hl 3 rfl) ?_
      obtain ⟨h_in, hf⟩ := as_some hf
      refine va_iald hx hb hK hP 4 1 rfl rfl h_in d_Mat_cutTo_45 ?_
      obtain ⟨laf_46, hc46, hf⟩ := bd1_some hf
      refine s_Vv (As := [.int r37, .int (eaf x3.toNatClampNeg)]) (rest := []) (wr := [(d, .inr (1, [.ref da, .int dn])), (da, .inl (cB, 16000, .inl df)), (ea, .inl (cI, 16000, .inl eaf))]) (ws' := wd_Mat_cutTo mt d da la ea cB cI cJ mc ms ml dn df laf_46 eaf) C.call (c_Mat_setLatest l dC dI cB cI cJ mt la d ea  mc ms ml laf r37 (eaf x3.toNatClampNeg) hc46) (cwV 2 hts (gd_V w_70 w_71 w_72 w_64 w_73) rfl rfl rfl ⟨rfl, hd_Mat_setLatest⟩ ⟨Nat.le_of_ble_eq_true rfl, Nat.le_of_ble_eq_true rfl⟩) rfl hl.1 rfl (Nat.le_of_ble_eq_true rfl) d_Mat_cutTo_46 ⟨Nat.le_of_ble_eq_true rfl, Nat.le_of_ble_eq_true rfl⟩ hZ hK hP hD hS hA 3 0 rfl rfl [0, 3] [1, 2, 4] [3, 0, 1, 4, 2] rfl rfl rfl rfl (by decide) rfl rfl (fun H locs hP hD hS => ?_)
      refine lv_iinc (v := (x3 + (-1))) (lv' := [(3, .int (x3 + (-1))), (0, .ref mt), (1, .int x1), (2, .int x2)]) hx hb d_Mat_cutTo_49 hl (k := 3) rfl (congrArg (fun z => x3 + z) (by decide)) (by decide) rfl (fun ls hl => ?_)
      refine lv_goto (tgt := 23) hx hb d_Mat_cutTo_52 (by decide) ?_
      exact ih23 (x3 + (-1)) laf_46 hf _ _ hP hD hS _ (lv_sub hl [1, 2, 3, 0] rfl)
noncomputable def j_Mat_cutTo_0 (N : Nat) (x1 : Int32) (mc : Int32) (dn : Int32) (df : Nat → Int32) (laf : Nat → Int32) (eaf : Nat → Int32)  : Option (Int32 × Int32 × (Nat → Int32)) :=
  (loop2 (b_Mat_cutTo_23 x1 (mx (0 : Int32) (x1 - (3 : Int32))) mc dn df eaf ) N ((mn mc (Int32.ofNat 16000)) - (1 : Int32)) laf)
set_option maxHeartbeats 4000000 in
set_option maxRecDepth 100000 in
theorem k_Mat_cutTo_0 {mc_z : Int32} {dn_z : Int32} {laf_z : Nat → Int32} (C : Fx p s m args meth c cd_Mat_cutTo 4 R_Mat lw_g none) (hK : va_K (dC, dI) vwCl [(cB, .byte), (cI, .int), (cJ, .long)] s) (hA : ∀ q, s.heap.size ≤ q → A q) (x1 : Int32) (mc : Int32) (ms : Int32) (ml : Int32) (dn : Int32) (df : Nat → Int32) (laf : Nat → Int32) (eaf : Nat → Int32)  (hf : j_Mat_cutTo_0 N x1 mc dn df laf eaf  = some (mc_z, dn_z, laf_z)) (hP : va_P (dC, dI) vwCl (wd_Mat_cutTo mt d da la ea cB cI cJ mc ms ml dn df laf eaf) H) (hD : va_D A (wd_Mat_cutTo mt d da la ea cB cI cJ mc ms ml dn df laf eaf)) (hS : va_S A s.heap H locs) (hl : lv_has ls 4 [(0, .ref mt), (1, .int x1)]) : W p l e rm_Mat_cutTo s m args below meth c H locs 0 0 (MQ below (sQv (dC, dI) vwCl [(cB, .byte), (cI, .int), (cJ, .long)] A (wd_Mat_cutTo mt d da la ea cB cI cJ mc_z ms ml dn_z df laf_z eaf)) args s 0 0 A) (F0 m 0 ls []) := by
  obtain ⟨hx, hb, hml, hown, hts, hr, hlocks, hZ⟩ := id C
  unfold j_Mat_cutTo_0 at hf
  refine lv_iconst (v := 0) hx hb d_Mat_cutTo_0 (by decide) ?_
  refine lv_iload_n hx hb d_Mat_cutTo_1 rfl (lv_at hl 1 rfl) ?_
  refine lv_iconst (v := 3) hx hb d_Mat_cutTo_2 (by decide) ?_
  refine lv_isub hx hb d_Mat_cutTo_3 ?_
  refine s_mmax hx hb (hml.trans hl.1.symm) hown (hts _ w_179) (hts _ w_27) (hts _ w_24) (hts _ w_28) (Nat.le_of_ble_eq_true rfl) (Nat.le_of_ble_eq_true rfl) (Nat.zero_le _) (Nat.zero_le _) d_Mat_cutTo_4 ?_
  refine lv_istore_n (lv' := [(2, .int (mx (0 : Int32) (x1 - (3 : Int32)))), (0, .ref mt), (1, .int x1)]) hx hb d_Mat_cutTo_7 rfl hl (by decide) rfl (fun ls hl => ?_)
  refine lv_aload_n hx hb d_Mat_cutTo_8 rfl (lv_at hl 1 rfl) ?_
  refine va_get (D := (dC, dI)) (ci := 3) (v := .int mc) (C := R_Mat) (T := T_Mat) (N := 6) hx hb hts w_52 hown hK hP 0 rfl rfl 3 (by decide) (hts _ w_55) (fun _ h9 => h9) rfl d_Mat_cutTo_9 ?_
  refine lv_aload_n hx hb d_Mat_cutTo_12 rfl (lv_at hl 1 rfl) ?_
  refine va_get (D := (dC, dI)) (ci := 3) (v := .ref ea) (C := R_Mat) (T := T_Mat) (N := 6) hx hb hts w_52 hown hK hP 0 rfl rfl 2 (by decide) (hts _ w_56) (fun _ h9 => h9) rfl d_Mat_cutTo_13 ?_
  refine va_alen (v := (Int32.ofNat 16000)) hx hb hK hP 4 1 rfl rfl rfl d_Mat_cutTo_16 ?_
  refine s_mmin hx hb (hml.trans hl.1.symm) hown (hts _ w_180) (hts _ w_23) (hts _ w_24) (hts _ w_25) (Nat.le_of_ble_eq_true rfl) (Nat.le_of_ble_eq_true rfl) (Nat.zero_le _) (Nat.zero_le _) d_Mat_cutTo_17 ?_
  refine lv_iconst (v := 1) hx hb d_Mat_cutTo_20 (by decide) ?_
  refine lv_isub hx hb d_Mat_cutTo_21 ?_
  refine lv_istore_n (lv' := [(3, .int ((mn mc (Int32.ofNat 16000)) - (1 : Int32))), (2, .int (mx (0 : Int32) (x1 - (3 : Int32)))), (0, .ref mt), (1, .int x1)]) hx hb d_Mat_cutTo_22 rfl hl (by decide) rfl (fun ls hl => ?_)
  exact k_Mat_cutTo_23 C hK hA x1 (mx (0 : Int32) (x1 - (3 : Int32))) mc ms ml dn df eaf  N ((mn mc (Int32.ofNat 16000)) - (1 : Int32)) laf hf _ _ hP hD hS _ (lv_sub hl [2, 3, 1, 0] rfl)
end
noncomputable abbrev f_Mat_cutTo (N : Nat) (x1 : Int32) (mc : Int32) (dn : Int32) (df : Nat → Int32) (laf : Nat → Int32) (eaf : Nat → Int32) : Option (Int32 × Int32 × (Nat → Int32)) := j_Mat_cutTo_0 N x1 mc dn df laf eaf
set_option maxRecDepth 100000 in
theorem c_Mat_cutTo {N : Nat} (l : Launch) (dC : Nat → ClassId) (dI : Nat → Nat → Nat) (cB cI cJ : ClassId) (mt d da la ea : Nat) (mc : Int32) (ms : Int32) (ml : Int32) (dn : Int32) (df : Nat → Int32) (laf : Nat → Int32) (eaf : Nat → Int32) (x1 : Int32) {mc_z : Int32} {dn_z : Int32} {laf_z : Nat → Int32} (hf : f_Mat_cutTo N x1 mc dn df laf eaf = some (mc_z, dn_z, laf_z)) : MetV l y_Mat_cutTo ws_Mat_cutTo rm_Mat_cutTo (dC, dI) vwCl [(cB, .byte), (cI, .int), (cJ, .long)] [.ref mt, .int x1] (wd_Mat_cutTo mt d da la ea cB cI cJ mc ms ml dn df laf eaf)  (wd_Mat_cutTo mt d da la ea cB cI cJ mc_z ms ml dn_z df laf_z eaf) 0 0 :=
  s_ofv (bytes := cd_Mat_cutTo) (maxL := 4) (ret := none) (by decide) rfl (Nat.le_of_ble_eq_true rfl) (fun p e s m below meth c A ls C hK hA hP hD hS hl => k_Mat_cutTo_0 C hK hA x1 mc ms ml dn df laf eaf hf hP hD hS (lv_sub hl [0, 1] rfl))

abbrev wd_Mat_data (mt d la ea : Nat) (cB cI cJ : ClassId) (mc : Int32) (ms : Int32) (ml : Int32) : va_W := [(mt, .inr (3, [.ref d, .ref la, .ref ea, .int mc, .int ms, .int ml]))]
abbrev rm_Mat_data : Room := { frames := 0, cells := 0, slots := 0, locals := 0 }
section
variable {p : Program} {l : Launch} {e : Env} {s : State} {m : MethodId} {args : Array Value} {below : List Frame} {meth : Method} {c : Code} {dC : Nat → ClassId} {dI : Nat → Nat → Nat} {A : Nat → Prop} {cB cI cJ : ClassId} {H : Heap} {locs : List Loc} {ls : Array Slot} {N : Nat} {mt d la ea : Nat}
noncomputable def j_Mat_data_0   : Option (Unit) :=
  (some () : Option (Unit))
set_option maxHeartbeats 4000000 in
set_option maxRecDepth 100000 in
theorem k_Mat_data_0  (C : Fx p s m args meth c cd_Mat_data 1 R_Mat lw_g (some (.object "TokenFrames$Row"))) (hK : va_K (dC, dI) vwCl [(cB, .byte), (cI, .int), (cJ, .long)] s) (hA : ∀ q, s.heap.size ≤ q → A q) (mc : Int32) (ms : Int32) (ml : Int32)  (hf : j_Mat_data_0   = some ()) (hP : va_P (dC, dI) vwCl (wd_Mat_data mt d la ea cB cI cJ mc ms ml) H) (hD : va_D A (wd_Mat_data mt d la ea cB cI cJ mc ms ml)) (hS : va_S A s.heap H locs) (hl : lv_has ls 1 [(0, .ref mt)]) : W p l e rm_Mat_data s m args below meth c H locs 0 0 (MQ below (sQr (dC, dI) vwCl [(cB, .byte), (cI, .int), (cJ, .long)] A d (wd_Mat_data mt d la ea cB cI cJ mc ms ml)) args s 0 0 A) (F0 m 0 ls []) := by
  obtain ⟨hx, hb, hml, hown, hts, hr, hlocks, hZ⟩ := id C
  unfold j_Mat_data_0 at hf
  refine lv_aload_n hx hb d_Mat_data_0 rfl (lv_at hl 0 rfl) ?_
  refine va_get (D := (dC, dI)) (ci := 3) (v := .ref d) (C := R_Mat) (T := T_Mat) (N := 6) hx hb hts w_52 hown hK hP 0 rfl rfl 0 (by decide) (hts _ w_57) (fun _ h9 => h9) rfl d_Mat_data_1 ?_
  cases hf
  exact s_rret hx hb hr (Or.inl ⟨_, rfl⟩) hlocks hP hK hD hS d_Mat_data_4
end
noncomputable abbrev f_Mat_data  : Option (Unit) := j_Mat_data_0 
set_option maxRecDepth 100000 in
theorem c_Mat_data (l : Launch) (dC : Nat → ClassId) (dI : Nat → Nat → Nat) (cB cI cJ : ClassId) (mt d la ea : Nat) (mc : Int32) (ms : Int32) (ml : Int32)   (hf : f_Mat_data  = some ()) : MetR l y_Mat_data ws_Mat_data rm_Mat_data (dC, dI) vwCl [(cB, .byte), (cI, .int), (cJ, .long)] [.ref mt] (wd_Mat_data mt d la ea cB cI cJ mc ms ml) d (wd_Mat_data mt d la ea cB cI cJ mc ms ml) 0 0 :=
  s_ofr (bytes := cd_Mat_data) (maxL := 1) (ret := (some (.object "TokenFrames$Row"))) (by decide) rfl (Nat.le_of_ble_eq_true rfl) (fun p e s m below meth c A ls C hK hA hP hD hS hl => k_Mat_data_0 C hK hA mc ms ml hf hP hD hS (lv_sub hl [0] rfl))

abbrev rm_Mat_init : Room := { frames := 2, cells := 4, slots := 36098, locals := 35 }
abbrev wn_Mat_init (cB cI cJ : ClassId) (h0 : Nat) : (Nat × Nat × Nat × Nat) → va_W := (fun (u : Nat × Nat × Nat × Nat) => ([(h0, .inr (3, [.ref u.1, .ref u.2.2.1, .ref u.2.2.2, .int (0 : Int32), .int (0 : Int32), .int (0 : Int32)])), (u.1, .inr (1, [.ref u.2.1, .int (0 : Int32)])), (u.2.1, .inl (cB, 16000, .inl (fun _ => 0))), (u.2.2.1, .inl (cI, 4096, .inl (fun _ => 0))), (u.2.2.2, .inl (cI, 16000, .inl (fun _ => 0)))] : va_W))
set_option maxHeartbeats 4000000 in
set_option maxRecDepth 100000 in
theorem c_Mat_init (l : Launch) (dC : Nat → ClassId) (dI : Nat → Nat → Nat) (cB cI cJ : ClassId) (h0 : Nat) : MetN l y_Mat_init ws_Mat_init rm_Mat_init (dC, dI) vwCl [(cB, .byte), (cI, .int), (cJ, .long)] [.ref h0] [(h0, .inr (3, [.null, .null, .null, .int (0 : Int32), .int (0 : Int32), .int (0 : Int32)]))] (wn_Mat_init cB cI cJ h0 ) 4 36098 := by
  refine s_ofn (bytes := cd_Mat_init) (maxL := 1) (ret := none) (by decide) rfl (Nat.le_of_ble_eq_true rfl) ?_
  intro p e s m below meth c A ls C hin hK hA hP hD hS hl
  obtain ⟨hx, hb, hml, hown, hts, hr, hlocks, hZ⟩ := id C
  have hl : lv_has ls 1 [(0, .ref h0)] := hl
  refine lv_aload_n hx hb d_Mat_init_0 rfl (lv_at hl 0 rfl) ?_
  refine W.objInit hx hb hown (hts _ w_498) (hts _ w_495) (hts _ w_496) rfl (by rw [hml]; exact hl.1) rfl d_Mat_init_1 (Nat.le_of_ble_eq_true rfl) (Nat.le_of_ble_eq_true rfl) ?_
  refine W.eq (g2 := F0 m 4 ls []) rfl ?_
  refine lv_aload_n hx hb d_Mat_init_4 rfl (lv_at hl 0 rfl) ?_
  refine va_new (ci := 1) (fs := [.null, .int (0 : Int32)]) (C := R_Row) (T := T_Row) (N := 2) hx hb hts w_0 ty_Row ty_Row_ok hown (hts _ w_499) (hts _ w_500) (hts _ w_12) hK hP hD hS hA rfl (fun j hj => by rcases (show j = 0 ∨ j = 1 by omega) with rfl | rfl <;> rfl) (Nat.le_of_ble_eq_true rfl) (Nat.le_of_ble_eq_true rfl) d_Mat_init_5 (fun q5 H hP hD hS => ?_)
  have hP : va_P (dC, dI) vwCl [(h0, .inr (3, [.null, .null, .null, .int (0 : Int32), .int (0 : Int32), .int (0 : Int32)])), (q5, .inr (1, [.null, .int (0 : Int32)]))] H := hP
  have hD : va_D A [(h0, .inr (3, [.null, .null, .null, .int (0 : Int32), .int (0 : Int32), .int (0 : Int32)])), (q5, .inr (1, [.null, .int (0 : Int32)]))] := hD
  refine W.widen (k := 1) (n := 2) (Nat.le_of_ble_eq_true rfl) (Nat.le_of_ble_eq_true rfl) ?_
  refine lv_dup hx hb d_Mat_init_8 rfl ?_
  refine lv_sipush (v := 16000) hx hb d_Mat_init_9 (by decide) ?_
  refine s_In (As := [.int (16000 : Int32)]) (rest := [.ref q5, .ref h0]) (wr := [(h0, .inr (3, [.null, .null, .null, .int (0 : Int32), .int (0 : Int32), .int (0 : Int32)]))]) C.call (c_Row_init16 l dC dI cB cI cJ q5 ) (cwI 1 hts (gd_c w_501) rfl rfl rfl (hts _ w_12) (hts _ w_502) (hts _ w_503) rfl hd_Row_init ⟨Nat.le_of_ble_eq_true rfl, Nat.le_of_ble_eq_true rfl⟩) rfl hl.1 rfl (Nat.le_of_ble_eq_true rfl) d_Mat_init_12 ⟨Nat.le_of_ble_eq_true rfl, Nat.le_of_ble_eq_true rfl⟩ hZ hK hP hD hS hA [1] [0] rfl rfl rfl rfl (by decide) (fun u_12 H locs hP hD hS => ?_)
  obtain ⟨q12_0, rfl⟩ : ∃ z, z = u_12 := ⟨_, rfl⟩
  have hP : va_P (dC, dI) vwCl [(h0, .inr (3, [.null, .null, .null, .int (0 : Int32), .int (0 : Int32), .int (0 : Int32)])), (q5, .inr (1, [.ref q12_0, .int (0 : Int32)])), (q12_0, .inl (cB, 16000, .inl (fun _ => 0)))] H := hP
  have hD : va_D A [(h0, .inr (3, [.null, .null, .null, .int (0 : Int32), .int (0 : Int32), .int (0 : Int32)])), (q5, .inr (1, [.ref q12_0, .int (0 : Int32)])), (q12_0, .inl (cB, 16000, .inl (fun _ => 0)))] := hD
  refine W.widen (k := 2) (n := 16002) (Nat.le_of_ble_eq_true rfl) (Nat.le_of_ble_eq_true rfl) ?_
  refine va_putF (D := (dC, dI)) (ci := 3) (v := .ref q5) (ty := .object "TokenFrames$Row") (C := R_Mat) (T := T_Mat) (N := 6) hx hb hts w_52 ty_Mat ty_Mat_ok nm_Mat hown hK hP hD hS 0 rfl rfl 0 (by decide) (hts _ w_57) (fun _ h9 => h9) rfl hin rfl (by decide +kernel) rfl rfl (Nat.le_of_ble_eq_true rfl) d_Mat_init_15 (fun H locs hP hD hS => ?_)
  have hP : va_P (dC, dI) vwCl [(h0, .inr (3, [.ref q5, .null, .null, .int (0 : Int32), .int (0 : Int32), .int (0 : Int32)])), (q5, .inr (1, [.ref q12_0, .int (0 : Int32)])), (q12_0, .inl (cB, 16000, .inl (fun _ => 0)))] H := hP
  have hD : va_D A [(h0, .inr (3, [.ref q5, .null, .null, .int (0 : Int32), .int (0 : Int32), .int (0 : Int32)])), (q5, .inr (1, [.ref q12_0, .int (0 : Int32)])), (q12_0, .inl (cB, 16000, .inl (fun _ => 0)))] := hD
  refine lv_aload_n hx hb d_Mat_init_18 rfl (lv_at hl 0 rfl) ?_
  refine lv_sipush (v := 4096) hx hb d_Mat_init_19 (by decide) ?_
  refine s_newI (k0 := 4096) 1 hx hb (hts _ w_504) rfl hK hP hD hS hA (by decide) (by decide) (Nat.le_of_ble_eq_true rfl) (Nat.le_of_ble_eq_true rfl) (Nat.le_of_ble_eq_true rfl) d_Mat_init_22 (fun q22 H hP hD hS => ?_)
  have hP : va_P (dC, dI) vwCl [(h0, .inr (3, [.ref q5, .null, .null, .int (0 : Int32), .int (0 : Int32), .int (0 : Int32)])), (q5, .inr (1, [.ref q12_0, .int (0 : Int32)])), (q12_0, .inl (cB, 16000, .inl (fun _ => 0))), (q22, .inl (cI, 4096, .inl (fun _ => 0)))] H := hP
  have hD : va_D A [(h0, .inr (3, [.ref q5, .null, .null, .int (0 : Int32), .int (0 : Int32), .int (0 : Int32)])), (q5, .inr (1, [.ref q12_0, .int (0 : Int32)])), (q12_0, .inl (cB, 16000, .inl (fun _ => 0))), (q22, .inl (cI, 4096, .inl (fun _ => 0)))] := hD
  refine W.widen (k := 3) (n := 20098) (Nat.le_of_ble_eq_true rfl) (Nat.le_of_ble_eq_true rfl) ?_
  refine va_putF (D := (dC, dI)) (ci := 3) (v := .ref q22) (ty := .array .int) (C := R_Mat) (T := T_Mat) (N := 6) hx hb hts w_52 ty_Mat ty_Mat_ok nm_Mat hown hK hP hD hS 0 rfl rfl 1 (by decide) (hts _ w_53) (fun _ h9 => h9) rfl hin rfl (by decide +kernel) rfl rfl (Nat.le_of_ble_eq_true rfl) d_Mat_init_24 (fun H locs hP hD hS => ?_)
  have hP : va_P (dC, dI) vwCl [(h0, .inr (3, [.ref q5, .ref q22, .null, .int (0 : Int32), .int (0 : Int32), .int (0 : Int32)])), (q5, .inr (1, [.ref q12_0, .int (0 : Int32)])), (q12_0, .inl (cB, 16000, .inl (fun _ => 0))), (q22, .inl (cI, 4096, .inl (fun _ => 0)))] H := hP
  have hD : va_D A [(h0, .inr (3, [.ref q5, .ref q22, .null, .int (0 : Int32), .int (0 : Int32), .int (0 : Int32)])), (q5, .inr (1, [.ref q12_0, .int (0 : Int32)])), (q12_0, .inl (cB, 16000, .inl (fun _ => 0))), (q22, .inl (cI, 4096, .inl (fun _ => 0)))] := hD
  refine lv_aload_n hx hb d_Mat_init_27 rfl (lv_at hl 0 rfl) ?_
  refine lv_sipush (v := 16000) hx hb d_Mat_init_28 (by decide) ?_
  refine s_newI (k0 := 16000) 1 hx hb (hts _ w_504) rfl hK hP hD hS hA (by decide) (by decide) (Nat.le_of_ble_eq_true rfl) (Nat.le_of_ble_eq_true rfl) (Nat.le_of_ble_eq_true rfl) d_Mat_init_31 (fun q31 H hP hD hS => ?_)
  have hP : va_P (dC, dI) vwCl [(h0, .inr (3, [.ref q5, .ref q22, .null, .int (0 : Int32), .int (0 : Int32), .int (0 : Int32)])), (q5, .inr (1, [.ref q12_0, .int (0 : Int32)])), (q12_0, .inl (cB, 16000, .inl (fun _ => 0))), (q22, .inl (cI, 4096, .inl (fun _ => 0))), (q31, .inl (cI, 16000, .inl (fun _ => 0)))] H := hP
  have hD : va_D A [(h0, .inr (3, [.ref q5, .ref q22, .null, .int (0 : Int32), .int (0 : Int32), .int (0 : Int32)])), (q5, .inr (1, [.ref q12_0, .int (0 : Int32)])), (q12_0, .inl (cB, 16000, .inl (fun _ => 0))), (q22, .inl (cI, 4096, .inl (fun _ => 0))), (q31, .inl (cI, 16000, .inl (fun _ => 0)))] := hD
  refine W.widen (k := 4) (n := 36098) (Nat.le_of_ble_eq_true rfl) (Nat.le_of_ble_eq_true rfl) ?_
  refine va_putF (D := (dC, dI)) (ci := 3) (v := .ref q31) (ty := .array .int) (C := R_Mat) (T := T_Mat) (N := 6) hx hb hts w_52 ty_Mat ty_Mat_ok nm_Mat hown hK hP hD hS 0 rfl rfl 2 (by decide) (hts _ w_56) (fun _ h9 => h9) rfl hin rfl (by decide +kernel) rfl rfl (Nat.le_of_ble_eq_true rfl) d_Mat_init_33 (fun H locs hP hD hS => ?_)
  have hP : va_P (dC, dI) vwCl [(h0, .inr (3, [.ref q5, .ref q22, .ref q31, .int (0 : Int32), .int (0 : Int32), .int (0 : Int32)])), (q5, .inr (1, [.ref q12_0, .int (0 : Int32)])), (q12_0, .inl (cB, 16000, .inl (fun _ => 0))), (q22, .inl (cI, 4096, .inl (fun _ => 0))), (q31, .inl (cI, 16000, .inl (fun _ => 0)))] H := hP
  have hD : va_D A [(h0, .inr (3, [.ref q5, .ref q22, .ref q31, .int (0 : Int32), .int (0 : Int32), .int (0 : Int32)])), (q5, .inr (1, [.ref q12_0, .int (0 : Int32)])), (q12_0, .inl (cB, 16000, .inl (fun _ => 0))), (q22, .inl (cI, 4096, .inl (fun _ => 0))), (q31, .inl (cI, 16000, .inl (fun _ => 0)))] := hD
  exact s_nret (wn := wn_Mat_init cB cI cJ h0 ) (q5, q12_0, q22, q31) hx hb hr hlocks hP hK hD hS d_Mat_init_36
