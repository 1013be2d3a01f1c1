abbrev wd_FW_addTail (fw g ga t ta bw pk : Nat) (cB cI cJ : ClassId) (gn : Int32) (gf : Nat → Int32) (tn : Int32) (tf : Nat → Int32) : va_W := [(fw, .inr (4, [.ref g, .ref t, .ref bw, .ref pk])), (g, .inr (1, [.ref ga, .int gn])), (ga, .inl (cB, 8000, .inl gf)), (t, .inr (1, [.ref ta, .int tn])), (ta, .inl (cB, 8000, .inl tf))]
abbrev rm_FW_addTail : Room := { frames := 4, cells := 0, slots := 0, locals := 94 }
section
variable {p : Program} {l : Launch} {e : Env} {s : State} {m : MethodId} {args : Array Value} {below : List Frame} {meth : Method} {c : Code} {dC : Nat → ClassId} {dI : Nat → Nat → Nat} {A : Nat → Prop} {cB cI cJ : ClassId} {H : Heap} {locs : List Loc} {ls : Array Slot} {N : Nat} {fw g ga t ta bw pk : Nat}
noncomputable def j_FW_addTail_0 (N : Nat) (x1 : Int32) (gn : Int32) (gf : Nat → Int32) (tn : Int32) (tf : Nat → Int32)  : Option (Int32 × Int32 × (Nat → Int32)) :=
  bd3 (f_Row_addWord 8000 (0 : Int32) tn tf) (fun r5 tn_5 tf_5 => (if (x1 &&& (4 : Int32)) = 0 then as_ (narrow .boolean (.int r5) = .int r5) ((some (r5, tn_5, tf_5) : Option (Int32 × Int32 × (Nat → Int32)))) else (if r5 = 0 then (some ((0 : Int32), tn_5, tf_5) : Option (Int32 × Int32 × (Nat → Int32))) else bd1 (f_Row_count gn) (fun r32 => bd1 (f_Sum_of N 8000 (0 : Int32) r32 gn gf) (fun r35 => bd3 (f_Row_addWord 8000 r35 tn_5 tf_5) (fun r38 tn_38 tf_38 => (if r38 = 0 then (some ((0 : Int32), tn_38, tf_38) : Option (Int32 × Int32 × (Nat → Int32))) else (some ((1 : Int32), tn_38, tf_38) : Option (Int32 × Int32 × (Nat → Int32))))))))))
set_option maxHeartbeats 4000000 in
set_option maxRecDepth 100000 in
theorem k_FW_addTail_0 {r_z : Int32} {tn_z : Int32} {tf_z : Nat → Int32} (C : Fx p s m args meth c cd_FW_addTail 3 R_FW lw_g (some .boolean)) (hK : va_K (dC, dI) vwCl [(cB, .byte), (cI, .int), (cJ, .long)] s) (hA : ∀ q, s.heap.size ≤ q → A q) (x1 : Int32) (gn : Int32) (gf : Nat → Int32) (tn : Int32) (tf : Nat → Int32)  (hf : j_FW_addTail_0 N x1 gn gf tn tf  = some (r_z, tn_z, tf_z)) (hP : va_P (dC, dI) vwCl (wd_FW_addTail fw g ga t ta bw pk cB cI cJ gn gf tn tf) H) (hD : va_D A (wd_FW_addTail fw g ga t ta bw pk cB cI cJ gn gf tn tf)) (hS : va_S A s.heap H locs) (hl : lv_has ls 3 [(0, .ref fw), (1, .int x1)]) : W p l e rm_FW_addTail s m args below meth c H locs 0 0 (MQ below (sQi (dC, dI) vwCl [(cB, .byte), (cI, .int), (cJ, .long)] A r_z (wd_FW_addTail fw g ga t ta bw pk cB cI cJ gn gf tn_z tf_z)) args s 0 0 A) (F0 m 0 ls []) := by
  obtain ⟨hx, hb, hml, hown, hts, hr, hlocks, hZ⟩ := id C
  unfold j_FW_addTail_0 at hf
  refine lv_aload_n hx hb d_FW_addTail_0 rfl (lv_at hl 0 rfl) ?_
  refine va_get (D := (dC, dI)) (ci := 4) (v := .ref t) (C := R_FW) (T := T_FW) (N := 4) hx hb hts w_166 hown hK hP 0 rfl rfl 1 (by decide) (hts _ w_167) (fun _ h9 => h9) rfl d_FW_addTail_1 ?_
  refine lv_iconst (v := 0) hx hb d_FW_addTail_4 (by decide) ?_
  obtain ⟨r5, tn_5, tf_5, hc5, hf⟩ := bd3_some hf
  refine s_Vi (As := [.int (0 : Int32)]) (rest := []) (wr := [(fw, .inr (4, [.ref g, .ref t, .ref bw, .ref pk])), (g, .inr (1, [.ref ga, .int gn])), (ga, .inl (cB, 8000, .inl gf))]) (ws' := wd_FW_addTail fw g ga t ta bw pk cB cI cJ gn gf tn_5 tf_5) C.call (c_Row_addWord l dC dI cB cI cJ t ta 8000 tn tf (0 : Int32) hc5) (cwV 1 hts (gd_V w_169 w_170 w_171 w_12 w_172) rfl rfl rfl ⟨rfl, hd_Row_addWord⟩ ⟨Nat.le_of_ble_eq_true rfl, Nat.le_of_ble_eq_true rfl⟩) rfl hl.1 rfl (Nat.le_of_ble_eq_true rfl) d_FW_addTail_5 ⟨Nat.le_of_ble_eq_true rfl, Nat.le_of_ble_eq_true rfl⟩ hZ hK hP hD hS hA 1 3 rfl rfl [3, 4] [0, 1, 2] [0, 1, 2, 3, 4] rfl rfl rfl rfl (by decide) rfl rfl (fun H locs hP hD hS => ?_)
  refine lv_istore_n (lv' := [(2, .int r5), (0, .ref fw), (1, .int x1)]) hx hb d_FW_addTail_8 rfl hl (by decide) rfl (fun ls hl => ?_)
  refine lv_iload_n hx hb d_FW_addTail_9 rfl (lv_at hl 2 rfl) ?_
  refine lv_iconst (v := 4) hx hb d_FW_addTail_10 (by decide) ?_
  refine lv_iand hx hb d_FW_addTail_11 ?_
  refine lv_if_eq (tgt := 50) hx hb d_FW_addTail_12 (by decide) (fun c_12 => ?_) (fun c_12 => ?_)
  · have hf := br_pos c_12 hf
    refine lv_iload_n hx hb d_FW_addTail_50 rfl (lv_at hl 0 rfl) ?_
    obtain ⟨hnb, hf⟩ := as_some hf
    cases hf
    exact s_zret hx hb hr hnb hlocks hP hK hD hS d_FW_addTail_51
  · have hf := br_neg c_12 hf
    refine lv_iload_n hx hb d_FW_addTail_15 rfl (lv_at hl 0 rfl) ?_
    refine lv_if_eq (tgt := 48) hx hb d_FW_addTail_16 (by decide) (fun c_16 => ?_) (fun c_16 => ?_)
    · have hf := br_pos c_16 hf
      refine lv_iconst (v := 0) hx hb d_FW_addTail_48 (by decide) ?_
      refine lv_istore_n (lv' := [(2, .int (0 : Int32)), (0, .ref fw), (1, .int x1)]) hx hb d_FW_addTail_49 rfl hl (by decide) rfl (fun ls hl => ?_)
      refine lv_iload_n hx hb d_FW_addTail_50 rfl (lv_at hl 0 rfl) ?_
      cases hf
      exact s_zret hx hb hr (by decide) hlocks hP hK hD hS d_FW_addTail_51
    · have hf := br_neg c_16 hf
      refine lv_aload_n hx hb d_FW_addTail_19 rfl (lv_at hl 1 rfl) ?_
      refine va_get (D := (dC, dI)) (ci := 4) (v := .ref t) (C := R_FW) (T := T_FW) (N := 4) hx hb hts w_166 hown hK hP 0 rfl rfl 1 (by decide) (hts _ w_167) (fun _ h9 => h9) rfl d_FW_addTail_20 ?_
      refine lv_aload_n hx hb d_FW_addTail_23 rfl (lv_at hl 1 rfl) ?_
      refine va_get (D := (dC, dI)) (ci := 4) (v := .ref g) (C := R_FW) (T := T_FW) (N := 4) hx hb hts w_166 hown hK hP 0 rfl rfl 0 (by decide) (hts _ w_178) (fun _ h9 => h9) rfl d_FW_addTail_24 ?_
      refine lv_iconst (v := 0) hx hb d_FW_addTail_27 (by decide) ?_
      refine lv_aload_n hx hb d_FW_addTail_28 rfl (lv_at hl 1 rfl) ?_
      refine va_get (D := (dC, dI)) (ci := 4) (v := .ref g) (C := R_FW) (T := T_FW) (N := 4) hx hb hts w_166 hown hK hP 0 rfl rfl 0 (by decide) (hts _ w_178) (fun _ h9 => h9) rfl d_FW_addTail_29 ?_
      obtain ⟨r32, hc32, hf⟩ := bd1_some hf
      refine s_Vi (As := []) (rest := [.int (0 : Int32), .ref g, .ref t]) (wr := [(fw, .inr (4, [.ref g, .ref t, .ref bw, .ref pk])), (ga, .inl (cB, 8000, .inl gf)), (t, .inr (1, [.ref ta, .int tn_5])), (ta, .inl (cB, 8000, .inl tf_5))]) (ws' := wd_FW_addTail fw g ga t ta bw pk cB cI cJ gn gf tn_5 tf_5) C.call (c_Row_count l dC dI cB cI cJ g ga  gn  hc32) (cwV 0 hts (gd_V w_173 w_10 w_11 w_12 w_13) rfl rfl rfl ⟨rfl, hd_Row_count⟩ ⟨Nat.le_of_ble_eq_true rfl, Nat.le_of_ble_eq_true rfl⟩) rfl hl.1 rfl (Nat.le_of_ble_eq_true rfl) d_FW_addTail_32 ⟨Nat.le_of_ble_eq_true rfl, Nat.le_of_ble_eq_true rfl⟩ hZ hK hP hD hS hA 1 1 rfl rfl [1] [0, 2, 3, 4] [0, 4, 1, 2, 3] rfl rfl rfl rfl (by decide) rfl rfl (fun H locs hP hD hS => ?_)
      obtain ⟨r35, hc35, hf⟩ := bd1_some hf
      refine s_Si (As := [.ref g, .int (0 : Int32), .int r32]) (rest := [.ref t]) (wr := [(fw, .inr (4, [.ref g, .ref t, .ref bw, .ref pk])), (t, .inr (1, [.ref ta, .int tn_5])), (ta, .inl (cB, 8000, .inl tf_5))]) (ws' := wd_FW_addTail fw g ga t ta bw pk cB cI cJ gn gf tn_5 tf_5) C.call (c_Sum_of l dC dI cB cI cJ g ga 8000 gn gf (0 : Int32) r32 hc35) (va_cwS 3 hts (gd_S w_174 w_175 w_149 w_176) rfl rfl rfl hd_Sum_of ⟨Nat.le_of_ble_eq_true rfl, Nat.le_of_ble_eq_true rfl⟩) rfl hl.1 rfl (Nat.le_of_ble_eq_true rfl) d_FW_addTail_35 ⟨Nat.le_of_ble_eq_true rfl, Nat.le_of_ble_eq_true rfl⟩ hZ hK hP hD hS hA [1, 2] [0, 3, 4] [0, 3, 4, 1, 2] rfl rfl rfl rfl (by decide) rfl rfl (fun H locs hP hD hS => ?_)
      obtain ⟨r38, tn_38, tf_38, hc38, hf⟩ := bd3_some hf
      refine s_Vi (As := [.int r35]) (rest := []) (wr := [(fw, .inr (4, [.ref g, .ref t, .ref bw, .ref pk])), (g, .inr (1, [.ref ga, .int gn])), (ga, .inl (cB, 8000, .inl gf))]) (ws' := wd_FW_addTail fw g ga t ta bw pk cB cI cJ gn gf tn_38 tf_38) C.call (c_Row_addWord l dC dI cB cI cJ t ta 8000 tn_5 tf_5 r35 hc38) (cwV 1 hts (gd_V w_169 w_170 w_171 w_12 w_172) rfl rfl rfl ⟨rfl, hd_Row_addWord⟩ ⟨Nat.le_of_ble_eq_true rfl, Nat.le_of_ble_eq_true rfl⟩) rfl hl.1 rfl (Nat.le_of_ble_eq_true rfl) d_FW_addTail_38 ⟨Nat.le_of_ble_eq_true rfl, Nat.le_of_ble_eq_true rfl⟩ hZ hK hP hD hS hA 1 3 rfl rfl [3, 4] [0, 1, 2] [0, 1, 2, 3, 4] rfl rfl rfl rfl (by decide) rfl rfl (fun H locs hP hD hS => ?_)
      refine lv_if_eq (tgt := 48) hx hb d_FW_addTail_41 (by decide) (fun c_41 => ?_) (fun c_41 => ?_)
      · have hf := br_pos c_41 hf
        refine lv_iconst (v := 0) hx hb d_FW_addTail_48 (by decide) ?_
        refine lv_istore_n (lv' := [(2, .int (0 : Int32)), (0, .ref fw), (1, .int x1)]) hx hb d_FW_addTail_49 rfl hl (by decide) rfl (fun ls hl => ?_)
        refine lv_iload_n hx hb d_FW_addTail_50 rfl (lv_at hl 0 rfl) ?_
        cases hf
        exact s_zret hx hb hr (by decide) hlocks hP hK hD hS d_FW_addTail_51
      · have hf := br_neg c_41 hf
        refine lv_iconst (v := 1) hx hb d_FW_addTail_44 (by decide) ?_
        refine lv_goto (tgt := 49) hx hb d_FW_addTail_45 (by decide) ?_
        refine lv_istore_n (lv' := [(2, .int (1 : Int32)), (0, .ref fw), (1, .int x1)]) hx hb d_FW_addTail_49 rfl hl (by decide) rfl (fun ls hl => ?_)
        refine lv_iload_n hx hb d_FW_addTail_50 rfl (lv_at hl 0 rfl) ?_
        cases hf
        exact s_zret hx hb hr (by decide) hlocks hP hK hD hS d_FW_addTail_51
end
noncomputable abbrev f_FW_addTail (N : Nat) (x1 : Int32) (gn : Int32) (gf : Nat → Int32) (tn : Int32) (tf : Nat → Int32) : Option (Int32 × Int32 × (Nat → Int32)) := j_FW_addTail_0 N x1 gn gf tn tf
set_option maxRecDepth 100000 in
theorem c_FW_addTail {N : Nat} (l : Launch) (dC : Nat → ClassId) (dI : Nat → Nat → Nat) (cB cI cJ : ClassId) (fw g ga t ta bw pk : Nat) (gn : Int32) (gf : Nat → Int32) (tn : Int32) (tf : Nat → Int32) (x1 : Int32) {r_z : Int32} {tn_z : Int32} {tf_z : Nat → Int32} (hf : f_FW_addTail N x1 gn gf tn tf = some (r_z, tn_z, tf_z)) : MetI l y_FW_addTail ws_FW_addTail rm_FW_addTail (dC, dI) vwCl [(cB, .byte), (cI, .int), (cJ, .long)] [.ref fw, .int x1] (wd_FW_addTail fw g ga t ta bw pk cB cI cJ gn gf tn tf) r_z (wd_FW_addTail fw g ga t ta bw pk cB cI cJ gn gf tn_z tf_z) 0 0 :=
  s_ofi (bytes := cd_FW_addTail) (maxL := 3) (ret := (some .boolean)) (by decide) rfl (Nat.le_of_ble_eq_true rfl) (fun p e s m below meth c A ls C hK hA hP hD hS hl => k_FW_addTail_0 C hK hA x1 gn gf tn tf hf hP hD hS (lv_sub hl [0, 1] rfl))

abbrev wd_FW_writeFrame (fw g ga t ta bw mt d da la ea hs hsa pk pka : Nat) (cB cI cJ : ClassId) (gn : Int32) (gf : Nat → Int32) (tn : Int32) (tf : Nat → Int32) (mc : Int32) (ms : Int32) (ml : Int32) (dn : Int32) (df : Nat → Int32) (laf : Nat → Int32) (eaf : Nat → Int32) (hsn : Int32) (hsf : Nat → Int32) (pkn : Int32) (pkf : Nat → Int32) : va_W := [(fw, .inr (4, [.ref g, .ref t, .ref bw, .ref pk])), (g, .inr (1, [.ref ga, .int gn])), (ga, .inl (cB, 8000, .inl gf)), (t, .inr (1, [.ref ta, .int tn])), (ta, .inl (cB, 8000, .inl tf)), (bw, .inr (2, [.ref hs, .ref mt, .ref d])), (mt, .inr (3, [.ref d, .ref la, .ref ea, .int mc, .int ms, .int ml])), (d, .inr (1, [.ref da, .int dn])), (da, .inl (cB, 16000, .inl df)), (la, .inl (cI, 4096, .inl laf)), (ea, .inl (cI, 16000, .inl eaf)), (hs, .inr (1, [.ref hsa, .int hsn])), (hsa, .inl (cB, 8000, .inl hsf)), (pk, .inr (1, [.ref pka, .int pkn])), (pka, .inl (cB, 8000, .inl pkf))]
abbrev rm_FW_writeFrame : Room := { frames := 6, cells := 0, slots := 0, locals := 149 }
section
variable {p : Program} {l : Launch} {e : Env} {s : State} {m : MethodId} {args : Array Value} {below : List Frame} {meth : Method} {c : Code} {dC : Nat → ClassId} {dI : Nat → Nat → Nat} {A : Nat → Prop} {cB cI cJ : ClassId} {H : Heap} {locs : List Loc} {ls : Array Slot} {N : Nat} {fw g ga t ta bw mt d da la ea hs hsa pk pka : Nat}
noncomputable def j_FW_writeFrame_88 (N : Nat) (x1 : Int32) (x6 : Int32) (gn : Int32) (gf : Nat → Int32) (tn : Int32) (tf : Nat → Int32) (mc : Int32) (ms : Int32) (ml : Int32) (dn : Int32) (df : Nat → Int32) (laf : Nat → Int32) (eaf : Nat → Int32) (pkn : Int32) (pkf : Nat → Int32)  : Option (Int32 × Int32 × (Nat → Int32) × Int32 × Int32 × Int32 × Int32 × (Nat → Int32) × (Nat → Int32) × (Nat → Int32) × Int32 × (Nat → Int32)) :=
  (if x6 = 0 then (some ((0 : Int32), tn, tf, mc, ms, ml, dn, df, laf, eaf, pkn, pkf) : Option (Int32 × Int32 × (Nat → Int32) × Int32 × Int32 × Int32 × Int32 × (Nat → Int32) × (Nat → Int32) × (Nat → Int32) × Int32 × (Nat → Int32))) else bd3 (f_FW_addTail N x1 gn gf tn tf) (fun r95 tn_95 tf_95 => (if r95 = 0 then (some ((0 : Int32), tn_95, tf_95, mc, ms, ml, dn, df, laf, eaf, pkn, pkf) : Option (Int32 × Int32 × (Nat → Int32) × Int32 × Int32 × Int32 × Int32 × (Nat → Int32) × (Nat → Int32) × (Nat → Int32) × Int32 × (Nat → Int32))) else (some ((1 : Int32), tn_95, tf_95, mc, ms, ml, dn, df, laf, eaf, pkn, pkf) : Option (Int32 × Int32 × (Nat → Int32) × Int32 × Int32 × Int32 × Int32 × (Nat → Int32) × (Nat → Int32) × (Nat → Int32) × Int32 × (Nat → Int32))))))
set_option maxHeartbeats 4000000 in
set_option maxRecDepth 100000 in
theorem k_FW_writeFrame_88 {r_z : Int32} {tn_z : Int32} {tf_z : Nat → Int32} {mc_z : Int32} {ms_z : Int32} {ml_z : Int32} {dn_z : Int32} {df_z : Nat → Int32} {laf_z : Nat → Int32} {eaf_z : Nat → Int32} {pkn_z : Int32} {pkf_z : Nat → Int32} (C : Fx p s m args meth c cd_FW_writeFrame 9 R_FW lw_g (some .boolean)) (hK : va_K (dC, dI) vwCl [(cB, .byte), (cI, .int), (cJ, .long)] s) (hA : ∀ q, s.heap.size ≤ q → A q) (x1 : Int32) (x6 : Int32) (gn : Int32) (gf : Nat → Int32) (tn : Int32) (tf : Nat → Int32) (mc : Int32) (ms : Int32) (ml : Int32) (dn : Int32) (df : Nat → Int32) (laf : Nat → Int32) (eaf : Nat → Int32) (hsn : Int32) (hsf : Nat → Int32) (pkn : Int32) (pkf : Nat → Int32)  (hf : j_FW_writeFrame_88 N x1 x6 gn gf tn tf mc ms ml dn df laf eaf pkn pkf  = some (r_z, tn_z, tf_z, mc_z, ms_z, ml_z, dn_z, df_z, laf_z, eaf_z, pkn_z, pkf_z)) (hP : va_P (dC, dI) vwCl (wd_FW_writeFrame fw g ga t ta bw mt d da la ea hs hsa pk pka cB cI cJ gn gf tn tf mc ms ml dn df laf eaf hsn hsf pkn pkf) H) (hD : va_D A (wd_FW_writeFrame fw g ga t ta bw mt d da la ea hs hsa pk pka cB cI cJ gn gf tn tf mc ms ml dn df laf eaf hsn hsf pkn pkf)) (hS : va_S A s.heap H locs) (hl : lv_has ls 9 [(0, .ref fw), (1, .int x1), (6, .int x6)]) : W p l e rm_FW_writeFrame s m args below meth c H locs 0 0 (MQ below (sQi (dC, dI) vwCl [(cB, .byte), (cI, .int), (cJ, .long)] A r_z (wd_FW_writeFrame fw g ga t ta bw mt d da la ea hs hsa pk pka cB cI cJ gn gf tn_z tf_z mc_z ms_z ml_z dn_z df_z laf_z eaf_z hsn hsf pkn_z pkf_z)) args s 0 0 A) (F0 m 88 ls []) := by
  obtain ⟨hx, hb, hml, hown, hts, hr, hlocks, hZ⟩ := id C
  unfold j_FW_writeFrame_88 at hf
  refine lv_iload hx hb d_FW_writeFrame_88 (lv_at hl 2 rfl) ?_
  refine lv_if_eq (tgt := 105) hx hb d_FW_writeFrame_90 (by decide) (fun c_90 => ?_) (fun c_90 => ?_)
  · have hf := br_pos c_90 hf
    refine lv_iconst (v := 0) hx hb d_FW_writeFrame_105 (by decide) ?_
    cases hf
    exact s_zret hx hb hr (by decide) hlocks hP hK hD hS d_FW_writeFrame_106
  · have hf := br_neg c_90 hf
    refine lv_aload_n hx hb d_FW_writeFrame_93 rfl (lv_at hl 0 rfl) ?_
    refine lv_iload_n hx hb d_FW_writeFrame_94 rfl (lv_at hl 1 rfl) ?_
    obtain ⟨r95, tn_95, tf_95, hc95, hf⟩ := bd3_some hf
    refine s_Vi (As := [.int x1]) (rest := []) (wr := [(bw, .inr (2, [.ref hs, .ref mt, .ref d])), (mt, .inr (3, [.ref d, .ref la, .ref ea, .int mc, .int ms, .int ml])), (d, .inr (1, [.ref da, .int dn])), (da, .inl (cB, 16000, .inl df)), (la, .inl (cI, 4096, .inl laf)), (ea, .inl (cI, 16000, .inl eaf)), (hs, .inr (1, [.ref hsa, .int hsn])), (hsa, .inl (cB, 8000, .inl hsf)), (pk, .inr (1, [.ref pka, .int pkn])), (pka, .inl (cB, 8000, .inl pkf))]) (ws' := wd_FW_writeFrame fw g ga t ta bw mt d da la ea hs hsa pk pka cB cI cJ gn gf tn_95 tf_95 mc ms ml dn df laf eaf hsn hsf pkn pkf) C.call (c_FW_addTail l dC dI cB cI cJ fw g ga t ta bw pk  gn gf tn tf x1 hc95) (cwV 1 hts (gd_V w_203 w_204 w_205 w_199 w_206) rfl rfl rfl ⟨rfl, hd_FW_addTail⟩ ⟨Nat.le_of_ble_eq_true rfl, Nat.le_of_ble_eq_true rfl⟩) rfl hl.1 rfl (Nat.le_of_ble_eq_true rfl) d_FW_writeFrame_95 ⟨Nat.le_of_ble_eq_true rfl, Nat.le_of_ble_eq_true rfl⟩ hZ hK hP hD hS hA 4 0 rfl rfl [0, 1, 2, 3, 4] [5, 6, 7, 8, 9, 10, 11, 12, 13, 14] [10, 11, 12, 13, 14, 0, 1, 2, 3, 4, 5, 6, 7, 8, 9] rfl rfl rfl rfl (by decide) rfl rfl (fun H locs hP hD hS => ?_)
    refine lv_if_eq (tgt := 105) hx hb d_FW_writeFrame_98 (by decide) (fun c_98 => ?_) (fun c_98 => ?_)
    · have hf := br_pos c_98 hf
      refine lv_iconst (v := 0) hx hb d_FW_writeFrame_105 (by decide) ?_
      cases hf
      exact s_zret hx hb hr (by decide) hlocks hP hK hD hS d_FW_writeFrame_106
    · have hf := br_neg c_98 hf
      refine lv_iconst (v := 1) hx hb d_FW_writeFrame_101 (by decide) ?_
      refine lv_goto (tgt := 106) hx hb d_FW_writeFrame_102 (by decide) ?_
      cases hf
      exact s_zret hx hb hr (by decide) hlocks hP hK hD hS d_FW_writeFrame_106
noncomputable def b_FW_writeFrame_35 (N : Nat) (x1 : Int32) (x5 : Int32) (x7 : Int32) (gn : Int32) (gf : Nat → Int32) (hsn : Int32)  (kh35 : Int32 → Int32 → Int32 → (Nat → Int32) → Int32 → Int32 → Int32 → Int32 → (Nat → Int32) → (Nat → Int32) → (Nat → Int32) → Int32 → (Nat → Int32) → Option (Int32 × Int32 × (Nat → Int32) × Int32 × Int32 × Int32 × Int32 × (Nat → Int32) × (Nat → Int32) × (Nat → Int32) × Int32 × (Nat → Int32))) (x6 : Int32) (x8 : Int32) (tn : Int32) (tf : Nat → Int32) (mc : Int32) (ms : Int32) (ml : Int32) (dn : Int32) (df : Nat → Int32) (laf : Nat → Int32) (eaf : Nat → Int32) (pkn : Int32) (pkf : Nat → Int32) : Option (Int32 × Int32 × (Nat → Int32) × Int32 × Int32 × Int32 × Int32 × (Nat → Int32) × (Nat → Int32) × (Nat → Int32) × Int32 × (Nat → Int32)) :=
  bd1 (f_Row_count gn) (fun r41 => (if r41 ≤ x8 then (j_FW_writeFrame_88 N x1 x6 gn gf tn tf mc ms ml dn df laf eaf pkn pkf ) else (if x6 = 0 then (j_FW_writeFrame_88 N x1 x6 gn gf tn tf mc ms ml dn df laf eaf pkn pkf ) else bd1 (f_Row_count gn) (fun r59 => bd12 (f_FW_addRow N x8 (mn r59 (x8 + x7)) x1 x5 gn gf tn tf mc ms ml dn df laf eaf hsn pkn pkf) (fun r73 tn_73 tf_73 mc_73 ms_73 ml_73 dn_73 df_73 laf_73 eaf_73 pkn_73 pkf_73 => (kh35 r73 (x8 + x7) tn_73 tf_73 mc_73 ms_73 ml_73 dn_73 df_73 laf_73 eaf_73 pkn_73 pkf_73))))))
set_option maxHeartbeats 4000000 in
set_option maxRecDepth 100000 in
theorem k_FW_writeFrame_35 {r_z : Int32} {tn_z : Int32} {tf_z : Nat → Int32} {mc_z : Int32} {ms_z : Int32} {ml_z : Int32} {dn_z : Int32} {df_z : Nat → Int32} {laf_z : Nat → Int32} {eaf_z : Nat → Int32} {pkn_z : Int32} {pkf_z : Nat → Int32} (C : Fx p s m args meth c cd_FW_writeFrame 9 R_FW lw_g (some .boolean)) (hK : va_K (dC, dI) vwCl [(cB, .byte), (cI, .int), (cJ, .long)] s) (hA : ∀ q, s.heap.size ≤ q → A q) (x1 : Int32) (x5 : Int32) (x7 : Int32) (gn : Int32) (gf : Nat → Int32) (hsn : Int32) (hsf : Nat → Int32)  : ∀ (n : Nat) (x6 : Int32) (x8 : Int32) (tn : Int32) (tf : Nat → Int32) (mc : Int32) (ms : Int32) (ml : Int32) (dn : Int32) (df : Nat → Int32) (laf : Nat → Int32) (eaf : Nat → Int32) (pkn : Int32) (pkf : Nat → Int32), loop13 (b_FW_writeFrame_35 N x1 x5 x7 gn gf hsn ) n x6 x8 tn tf mc ms ml dn df laf eaf pkn pkf = some (r_z, tn_z, tf_z, mc_z, ms_z, ml_z, dn_z, df_z, laf_z, eaf_z, pkn_z, pkf_z) → ∀ (H : Heap) (locs : List Loc), va_P (dC, dI) vwCl (wd_FW_writeFrame fw g ga t ta bw mt d da la ea hs hsa pk pka cB cI cJ gn gf tn tf mc ms ml dn df laf eaf hsn hsf pkn pkf) H → va_D A (wd_FW_writeFrame fw g ga t ta bw mt d da la ea hs hsa pk pka cB cI cJ gn gf tn tf mc ms ml dn df laf eaf hsn hsf pkn pkf) → va_S A s.heap H locs → ∀ (ls : Array Slot), lv_has ls 9 [(0, .ref fw), (1, .int x1), (5, .int x5), (6, .int x6), (7, .int x7), (8, .int x8)] → W p l e rm_FW_writeFrame s m args below meth c H locs 0 0 (MQ below (sQi (dC, dI) vwCl [(cB, .byte), (cI, .int), (cJ, .long)] A r_z (wd_FW_writeFrame fw g ga t ta bw mt d da la ea hs hsa pk pka cB cI cJ gn gf tn_z tf_z mc_z ms_z ml_z dn_z df_z laf_z eaf_z hsn hsf pkn_z pkf_z)) args s 0 0 A) (F0 m 35 ls []) := by
  obtain ⟨hx, hb, hml, hown, hts, hr, hlocks, hZ⟩ := id C
  intro n
  induction n with
  | zero => intro x6 x8 tn tf mc ms ml dn df laf eaf pkn pkf hf; cases hf
  | succ n ih35 =>
    intro x6 x8 tn tf mc ms ml dn df laf eaf pkn pkf hf H locs hP hD hS ls hl
    have hf : b_FW_writeFrame_35 N x1 x5 x7 gn gf hsn  (loop13 (b_FW_writeFrame_35 N x1 x5 x7 gn gf hsn ) n) x6 x8 tn tf mc ms ml dn df laf eaf pkn pkf = some (r_z, tn_z, tf_z, mc_z, ms_z, ml_z, dn_z, df_z, laf_z, eaf_z, pkn_z, pkf_z) := hf
    generalize loop13 (b_FW_writeFrame_35 N x1 x5 x7 gn gf hsn ) n = kh35 at hf ih35
    unfold b_FW_writeFrame_35 at hf
    refine lv_iload hx hb d_FW_writeFrame_35 (lv_at hl 5 rfl) ?_
    refine lv_aload_n hx hb d_FW_writeFrame_37 rfl (lv_at hl 0 rfl) ?_
    refine va_get (D := (dC, dI)) (ci := 4) (v := .ref g) (C := R_FW) (T := T_FW) (N := 4) hx hb hts w_166 hown hK hP 0 rfl rfl 0 (by decide) (hts _ w_178) (fun _ h9 => h9) rfl d_FW_writeFrame_38 ?_
    obtain ⟨r41, hc41, hf⟩ := bd1_some hf
    refine s_Vi (As := []) (rest := [.int x8]) (wr := [(fw, .inr (4, [.ref g, .ref t, .ref bw, .ref pk])), (ga, .inl (cB, 8000, .inl gf)), (t, .inr (1, [.ref ta, .int tn])), (ta, .inl (cB, 8000, .inl tf)), (bw, .inr (2, [.ref hs, .ref mt, .ref d])), (mt, .inr (3, [.ref d, .ref la, .ref ea, .int mc, .int ms, .int ml])), (d, .inr (1, [.ref da, .int dn])), (da, .inl (cB, 16000, .inl df)), (la, .inl (cI, 4096, .inl laf)), (ea, .inl (cI, 16000, .inl eaf)), (hs, .inr (1, [.ref hsa, .int hsn])), (hsa, .inl (cB, 8000, .inl hsf)), (pk, .inr (1, [.ref pka, .int pkn])), (pka, .inl (cB, 8000, .inl pkf))]) (ws' := wd_FW_writeFrame fw g ga t ta bw mt d da la ea hs hsa pk pka cB cI cJ gn gf tn tf mc ms ml dn df laf eaf hsn hsf pkn pkf) C.call (c_Row_count l dC dI cB cI cJ g ga  gn  hc41) (cwV 0 hts (gd_V w_173 w_10 w_11 w_12 w_13) rfl rfl rfl ⟨rfl, hd_Row_count⟩ ⟨Nat.le_of_ble_eq_true rfl, Nat.le_of_ble_eq_true rfl⟩) rfl hl.1 rfl (Nat.le_of_ble_eq_true rfl) d_FW_writeFrame_41 ⟨Nat.le_of_ble_eq_true rfl, Nat.le_of_ble_eq_true rfl⟩ hZ hK hP hD hS hA 1 1 rfl rfl [1] [0, 2, 3, 4, 5, 6, 7, 8, 9, 10, 11, 12, 13, 14] [0, 14, 1, 2, 3, 4, 5, 6, 7, 8, 9, 10, 11, 12, 13] rfl rfl rfl rfl (by decide) rfl rfl (fun H locs hP hD hS => ?_)
    refine lv_icmp_ge (tgt := 88) hx hb d_FW_writeFrame_44 (by decide) (fun c_44 => ?_) (fun c_44 => ?_)
    · have hf := br_pos c_44 hf
      exact k_FW_writeFrame_88 C hK hA x1 x6 gn gf tn tf mc ms ml dn df laf eaf hsn hsf pkn pkf  hf hP hD hS (lv_sub hl [0, 1, 3] rfl)
    · have hf := br_neg c_44 hf
      refine lv_iload hx hb d_FW_writeFrame_47 (lv_at hl 3 rfl) ?_
      refine lv_if_eq (tgt := 88) hx hb d_FW_writeFrame_49 (by decide) (fun c_49 => ?_) (fun c_49 => ?_)
      · have hf := br_pos c_49 hf
        exact k_FW_writeFrame_88 C hK hA x1 x6 gn gf tn tf mc ms ml dn df laf eaf hsn hsf pkn pkf  hf hP hD hS (lv_sub hl [0, 1, 3] rfl)
      · have hf := br_neg c_49 hf
        refine lv_aload_n hx hb d_FW_writeFrame_52 rfl (lv_at hl 0 rfl) ?_
        refine lv_iload hx hb d_FW_writeFrame_53 (lv_at hl 5 rfl) ?_
        refine lv_aload_n hx hb d_FW_writeFrame_55 rfl (lv_at hl 0 rfl) ?_
        refine va_get (D := (dC, dI)) (ci := 4) (v := .ref g) (C := R_FW) (T := T_FW) (N := 4) hx hb hts w_166 hown hK hP 0 rfl rfl 0 (by decide) (hts _ w_178) (fun _ h9 => h9) rfl d_FW_writeFrame_56 ?_
        obtain ⟨r59, hc59, hf⟩ := bd1_some hf
        refine s_Vi (As := []) (rest := [.int x8, .ref fw]) (wr := [(fw, .inr (4, [.ref g, .ref t, .ref bw, .ref pk])), (ga, .inl (cB, 8000, .inl gf)), (t, .inr (1, [.ref ta, .int tn])), (ta, .inl (cB, 8000, .inl tf)), (bw, .inr (2, [.ref hs, .ref mt, .ref d])), (mt, .inr (3, [.ref d, .ref la, .ref ea, .int mc, .int ms, .int ml])), (d, .inr (1, [.ref da, .int dn])), (da, .inl (cB, 16000, .inl df)), (la, .inl (cI, 4096, .inl laf)), (ea, .inl (cI, 16000, .inl eaf)), (hs, .inr (1, [.ref hsa, .int hsn])), (hsa, .inl (cB, 8000, .inl hsf)), (pk, .inr (1, [.ref pka, .int pkn])), (pka, .inl (cB, 8000, .inl pkf))]) (ws' := wd_FW_writeFrame fw g ga t ta bw mt d da la ea hs hsa pk pka cB cI cJ gn gf tn tf mc ms ml dn df laf eaf hsn hsf pkn pkf) C.call (c_Row_count l dC dI cB cI cJ g ga  gn  hc59) (cwV 0 hts (gd_V w_173 w_10 w_11 w_12 w_13) rfl rfl rfl ⟨rfl, hd_Row_count⟩ ⟨Nat.le_of_ble_eq_true rfl, Nat.le_of_ble_eq_true rfl⟩) rfl hl.1 rfl (Nat.le_of_ble_eq_true rfl) d_FW_writeFrame_59 ⟨Nat.le_of_ble_eq_true rfl, Nat.le_of_ble_eq_true rfl⟩ hZ hK hP hD hS hA 1 1 rfl rfl [1] [0, 2, 3, 4, 5, 6, 7, 8, 9, 10, 11, 12, 13, 14] [0, 14, 1, 2, 3, 4, 5, 6, 7, 8, 9, 10, 11, 12, 13] rfl rfl rfl rfl (by decide) rfl rfl (fun H locs hP hD hS => ?_)
        refine lv_iload hx hb d_FW_writeFrame_62 (lv_at hl 5 rfl) ?_
        refine lv_iload hx hb d_FW_writeFrame_64 (lv_at hl 4 rfl) ?_
        refine lv_iadd hx hb d_FW_writeFrame_66 ?_
        refine s_mmin hx hb (hml.trans hl.1.symm) hown (hts _ w_207) (hts _ w_23) (hts _ w_24) (hts _ w_25) (Nat.le_of_ble_eq_true rfl) (Nat.le_of_ble_eq_true rfl) (Nat.zero_le _) (Nat.zero_le _) d_FW_writeFrame_67 ?_
        refine lv_iload_n hx hb d_FW_writeFrame_70 rfl (lv_at hl 1 rfl) ?_
        refine lv_iload hx hb d_FW_writeFrame_71 (lv_at hl 2 rfl) ?_
        obtain ⟨r73, tn_73, tf_73, mc_73, ms_73, ml_73, dn_73, df_73, laf_73, eaf_73, pkn_73, pkf_73, hc73, hf⟩ := bd12_some hf
        refine s_Vi (As := [.int x8, .int (mn r59 (x8 + x7)), .int x1, .int x5]) (rest := []) (wr := [(hsa, .inl (cB, 8000, .inl hsf))]) (ws' := wd_FW_writeFrame fw g ga t ta bw mt d da la ea hs hsa pk pka cB cI cJ gn gf tn_73 tf_73 mc_73 ms_73 ml_73 dn_73 df_73 laf_73 eaf_73 hsn hsf pkn_73 pkf_73) C.call (c_FW_addRow l dC dI cB cI cJ fw g ga t ta bw mt d da la ea hs pk pka hsa  gn gf tn tf mc ms ml dn df laf eaf hsn pkn pkf x8 (mn r59 (x8 + x7)) x1 x5 hc73) (cwV 4 hts (gd_V w_208 w_209 w_210 w_199 w_211) rfl rfl rfl ⟨rfl, hd_FW_addRow⟩ ⟨Nat.le_of_ble_eq_true rfl, Nat.le_of_ble_eq_true rfl⟩) rfl hl.1 rfl (Nat.le_of_ble_eq_true rfl) d_FW_writeFrame_73 ⟨Nat.le_of_ble_eq_true rfl, Nat.le_of_ble_eq_true rfl⟩ hZ hK hP hD hS hA 4 0 rfl rfl [0, 1, 2, 3, 4, 5, 6, 7, 8, 9, 10, 11, 13, 14] [12] [1, 2, 3, 4, 5, 6, 7, 8, 9, 10, 11, 12, 0, 13, 14] rfl rfl rfl rfl (by decide) rfl rfl (fun H locs hP hD hS => ?_)
        refine lv_istore (lv' := [(6, .int r73), (0, .ref fw), (1, .int x1), (5, .int x5), (7, .int x7), (8, .int x8)]) hx hb d_FW_writeFrame_76 hl (by decide) rfl (fun ls hl => ?_)
        refine lv_iload hx hb d_FW_writeFrame_78 (lv_at hl 5 rfl) ?_
        refine lv_iload hx hb d_FW_writeFrame_80 (lv_at hl 4 rfl) ?_
        refine lv_iadd hx hb d_FW_writeFrame_82 ?_
        refine lv_istore (lv' := [(8, .int (x8 + x7)), (6, .int r73), (0, .ref fw), (1, .int x1), (5, .int x5), (7, .int x7)]) hx hb d_FW_writeFrame_83 hl (by decide) rfl (fun ls hl => ?_)
        refine lv_goto (tgt := 35) hx hb d_FW_writeFrame_85 (by decide) ?_
        exact ih35 r73 (x8 + x7) tn_73 tf_73 mc_73 ms_73 ml_73 dn_73 df_73 laf_73 eaf_73 pkn_73 pkf_73 hf _ _ hP hD hS _ (lv_sub hl [2, 3, 4, 1, 5, 0] rfl)
noncomputable def j_FW_writeFrame_0 (N : Nat) (x1 : Int32) (x2 : Int32) (x3 : Int32) (x4 : Int32) (x5 : Int32) (gn : Int32) (gf : Nat → Int32) (tn : Int32) (tf : Nat → Int32) (ms : Int32) (ml : Int32) (dn : Int32) (df : Nat → Int32) (laf : Nat → Int32) (eaf : Nat → Int32) (hsn : Int32) (hsf : Nat → Int32) (pkn : Int32) (pkf : Nat → Int32)  : Option (Int32 × Int32 × (Nat → Int32) × Int32 × Int32 × Int32 × Int32 × (Nat → Int32) × (Nat → Int32) × (Nat → Int32) × Int32 × (Nat → Int32)) :=
  bd1 (f_Row_cutTo (0 : Int32) tn) (fun tn_5 => bd3 (f_FW_addHead N x1 x2 x3 gn tn_5 tf) (fun r12 tn_12 tf_12 => bd4 (f_BW_startOver N dn df laf hsn hsf) (fun mc_21 dn_21 df_21 laf_21 => (loop13 (b_FW_writeFrame_35 N x1 x5 (mx (1 : Int32) x4) gn gf hsn ) N r12 (0 : Int32) tn_12 tf_12 mc_21 ms ml dn_21 df_21 laf_21 eaf pkn pkf))))
set_option maxHeartbeats 4000000 in
set_option maxRecDepth 100000 in
theorem k_FW_writeFrame_0 {r_z : Int32} {tn_z : Int32} {tf_z : Nat → Int32} {mc_z : Int32} {ms_z : Int32} {ml_z : Int32} {dn_z : Int32} {df_z : Nat → Int32} {laf_z : Nat → Int32} {eaf_z : Nat → Int32} {pkn_z : Int32} {pkf_z : Nat → Int32} (C : Fx p s m args meth c cd_FW_writeFrame 9 R_FW lw_g (some .boolean)) (hK : va_K (dC, dI) vwCl [(cB, .byte), (cI, .int), (cJ, .long)] s) (hA : ∀ q, s.heap.size ≤ q → A q) (x1 : Int32) (x2 : Int32) (x3 : Int32) (x4 : Int32) (x5 : Int32) (gn : Int32) (gf : Nat → Int32) (tn : Int32) (tf : Nat → Int32) (mc : Int32) (ms : Int32) (ml : Int32) (dn : Int32) (df : Nat → Int32) (laf : Nat → Int32) (eaf : Nat → Int32) (hsn : Int32) (hsf : Nat → Int32) (pkn : Int32) (pkf : Nat → Int32)  (hf : j_FW_writeFrame_0 N x1 x2 x3 x4 x5 gn gf tn tf ms ml dn df laf eaf hsn hsf pkn pkf  = some (r_z, tn_z, tf_z, mc_z, ms_z, ml_z, dn_z, df_z, laf_z, eaf_z, pkn_z, pkf_z)) (hP : va_P (dC, dI) vwCl (wd_FW_writeFrame fw g ga t ta bw mt d da la ea hs hsa pk pka cB cI cJ gn gf tn tf mc ms ml dn df laf eaf hsn hsf pkn pkf) H) (hD : va_D A (wd_FW_writeFrame fw g ga t ta bw mt d da la ea hs hsa pk pka cB cI cJ gn gf tn tf mc ms ml dn df laf eaf hsn hsf pkn pkf)) (hS : va_S A s.heap H locs) (hl : lv_has ls 9 [(0, .ref fw), (1, .int x1), (2, .int x2), (3, .int x3), (4, .int x4), (5, .int x5)]) : W p l e rm_FW_writeFrame s m args below meth c H locs 0 0 (MQ below (sQi (dC, dI) vwCl [(cB, .byte), (cI, .int), (cJ, .long)] A r_z (wd_FW_writeFrame fw g ga t ta bw mt d da la ea hs hsa pk pka cB cI cJ gn gf tn_z tf_z mc_z ms_z ml_z dn_z df_z laf_z eaf_z hsn hsf pkn_z pkf_z)) args s 0 0 A) (F0 m 0 ls []) := by
  obtain ⟨hx, hb, hml, hown, hts, hr, hlocks, hZ⟩ := id C
  unfold j_FW_writeFrame_0 at hf
  refine lv_aload_n hx hb d_FW_writeFrame_0 rfl (lv_at hl 0 rfl) ?_
  refine va_get (D := (dC, dI)) (ci := 4) (v := .ref t) (C := R_FW) (T := T_FW) (N := 4) hx hb hts w_166 hown hK hP 0 rfl rfl 1 (by decide) (hts _ w_167) (fun _ h9 => h9) rfl d_FW_writeFrame_1 ?_
  refine lv_iconst (v := 0) hx hb d_FW_writeFrame_4 (by decide) ?_
  obtain ⟨tn_5, hc5, hf⟩ := bd1_some hf
  refine s_Vv (As := [.int (0 : Int32)]) (rest := []) (wr := [(fw, .inr (4, [.ref g, .ref t, .ref bw, .ref pk])), (g, .inr (1, [.ref ga, .int gn])), (ga, .inl (cB, 8000, .inl gf)), (ta, .inl (cB, 8000, .inl tf)), (bw, .inr (2, [.ref hs, .ref mt, .ref d])), (mt, .inr (3, [.ref d, .ref la, .ref ea, .int mc, .int ms, .int ml])), (d, .inr (1, [.ref da, .int dn])), (da, .inl (cB, 16000, .inl df)), (la, .inl (cI, 4096, .inl laf)), (ea, .inl (cI, 16000, .inl eaf)), (hs, .inr (1, [.ref hsa, .int hsn])), (hsa, .inl (cB, 8000, .inl hsf)), (pk, .inr (1, [.ref pka, .int pkn])), (pka, .inl (cB, 8000, .inl pkf))]) (ws' := wd_FW_writeFrame fw g ga t ta bw mt d da la ea hs hsa pk pka cB cI cJ gn gf tn_5 tf mc ms ml dn df laf eaf hsn hsf pkn pkf) C.call (c_Row_cutTo l dC dI cB cI cJ t ta  tn (0 : Int32) hc5) (cwV 1 hts (gd_V w_187 w_30 w_31 w_12 w_32) rfl rfl rfl ⟨rfl, hd_Row_cutTo⟩ ⟨Nat.le_of_ble_eq_true rfl, Nat.le_of_ble_eq_true rfl⟩) rfl hl.1 rfl (Nat.le_of_ble_eq_true rfl) d_FW_writeFrame_5 ⟨Nat.le_of_ble_eq_true rfl, Nat.le_of_ble_eq_true rfl⟩ hZ hK hP hD hS hA 1 3 rfl rfl [3] [0, 1, 2, 4, 5, 6, 7, 8, 9, 10, 11, 12, 13, 14] [0, 1, 2, 14, 3, 4, 5, 6, 7, 8, 9, 10, 11, 12, 13] rfl rfl rfl rfl (by decide) rfl rfl (fun H locs hP hD hS => ?_)
  refine lv_aload_n hx hb d_FW_writeFrame_8 rfl (lv_at hl 0 rfl) ?_
  refine lv_iload_n hx hb d_FW_writeFrame_9 rfl (lv_at hl 1 rfl) ?_
  refine lv_iload_n hx hb d_FW_writeFrame_10 rfl (lv_at hl 2 rfl) ?_
  refine lv_iload_n hx hb d_FW_writeFrame_11 rfl (lv_at hl 3 rfl) ?_
  obtain ⟨r12, tn_12, tf_12, hc12, hf⟩ := bd3_some hf
  refine s_Vi (As := [.int x1, .int x2, .int x3]) (rest := []) (wr := [(ga, .inl (cB, 8000, .inl gf)), (bw, .inr (2, [.ref hs, .ref mt, .ref d])), (mt, .inr (3, [.ref d, .ref la, .ref ea, .int mc, .int ms, .int ml])), (d, .inr (1, [.ref da, .int dn])), (da, .inl (cB, 16000, .inl df)), (la, .inl (cI, 4096, .inl laf)), (ea, .inl (cI, 16000, .inl eaf)), (hs, .inr (1, [.ref hsa, .int hsn])), (hsa, .inl (cB, 8000, .inl hsf)), (pk, .inr (1, [.ref pka, .int pkn])), (pka, .inl (cB, 8000, .inl pkf))]) (ws' := wd_FW_writeFrame fw g ga t ta bw mt d da la ea hs hsa pk pka cB cI cJ gn gf tn_12 tf_12 mc ms ml dn df laf eaf hsn hsf pkn pkf) C.call (c_FW_addHead l dC dI cB cI cJ fw g t ta bw pk ga  gn tn_5 tf x1 x2 x3 hc12) (cwV 3 hts (gd_V w_196 w_197 w_198 w_199 w_200) rfl rfl rfl ⟨rfl, hd_FW_addHead⟩ ⟨Nat.le_of_ble_eq_true rfl, Nat.le_of_ble_eq_true rfl⟩) rfl hl.1 rfl (Nat.le_of_ble_eq_true rfl) d_FW_writeFrame_12 ⟨Nat.le_of_ble_eq_true rfl, Nat.le_of_ble_eq_true rfl⟩ hZ hK hP hD hS hA 4 0 rfl rfl [0, 1, 3, 4] [2, 5, 6, 7, 8, 9, 10, 11, 12, 13, 14] [11, 12, 0, 13, 14, 1, 2, 3, 4, 5, 6, 7, 8, 9, 10] rfl rfl rfl rfl (by decide) rfl rfl (fun H locs hP hD hS => ?_)
  refine lv_istore (lv' := [(6, .int r12), (0, .ref fw), (1, .int x1), (2, .int x2), (3, .int x3), (4, .int x4), (5, .int x5)]) hx hb d_FW_writeFrame_15 hl (by decide) rfl (fun ls hl => ?_)
  refine lv_aload_n hx hb d_FW_writeFrame_17 rfl (lv_at hl 1 rfl) ?_
  refine va_get (D := (dC, dI)) (ci := 4) (v := .ref bw) (C := R_FW) (T := T_FW) (N := 4) hx hb hts w_166 hown hK hP 0 rfl rfl 2 (by decide) (hts _ w_188) (fun _ h9 => h9) rfl d_FW_writeFrame_18 ?_
  obtain ⟨mc_21, dn_21, df_21, laf_21, hc21, hf⟩ := bd4_some hf
  refine s_Vv (As := []) (rest := []) (wr := [(fw, .inr (4, [.ref g, .ref t, .ref bw, .ref pk])), (g, .inr (1, [.ref ga, .int gn])), (ga, .inl (cB, 8000, .inl gf)), (t, .inr (1, [.ref ta, .int tn_12])), (ta, .inl (cB, 8000, .inl tf_12)), (ea, .inl (cI, 16000, .inl eaf)), (pk, .inr (1, [.ref pka, .int pkn])), (pka, .inl (cB, 8000, .inl pkf))]) (ws' := wd_FW_writeFrame fw g ga t ta bw mt d da la ea hs hsa pk pka cB cI cJ gn gf tn_12 tf_12 mc_21 ms ml dn_21 df_21 laf_21 eaf hsn hsf pkn pkf) C.call (c_BW_startOver l dC dI cB cI cJ bw mt d da la hs hsa ea  mc ms ml dn df laf hsn hsf  hc21) (cwV 0 hts (gd_V w_201 w_134 w_135 w_46 w_136) rfl rfl rfl ⟨rfl, hd_BW_startOver⟩ ⟨Nat.le_of_ble_eq_true rfl, Nat.le_of_ble_eq_true rfl⟩) rfl hl.1 rfl (Nat.le_of_ble_eq_true rfl) d_FW_writeFrame_21 ⟨Nat.le_of_ble_eq_true rfl, Nat.le_of_ble_eq_true rfl⟩ hZ hK hP hD hS hA 2 5 rfl rfl [5, 6, 7, 8, 9, 11, 12] [0, 1, 2, 3, 4, 10, 13, 14] [0, 1, 2, 3, 4, 8, 9, 10, 11, 12, 5, 13, 14, 6, 7] rfl rfl rfl rfl (by decide) rfl rfl (fun H locs hP hD hS => ?_)
  refine lv_iconst (v := 1) hx hb d_FW_writeFrame_24 (by decide) ?_
  refine lv_iload hx hb d_FW_writeFrame_25 (lv_at hl 5 rfl) ?_
  refine s_mmax hx hb (hml.trans hl.1.symm) hown (hts _ w_202) (hts _ w_27) (hts _ w_24) (hts _ w_28) (Nat.le_of_ble_eq_true rfl) (Nat.le_of_ble_eq_true rfl) (Nat.zero_le _) (Nat.zero_le _) d_FW_writeFrame_27 ?_
  refine lv_istore (lv' := [(7, .int (mx (1 : Int32) x4)), (6, .int r12), (0, .ref fw), (1, .int x1), (2, .int x2), (3, .int x3), (4, .int x4), (5, .int x5)]) hx hb d_FW_writeFrame_30 hl (by decide) rfl (fun ls hl => ?_)
  refine lv_iconst (v := 0) hx hb d_FW_writeFrame_32 (by decide) ?_
  refine lv_istore (lv' := [(8, .int (0 : Int32)), (7, .int (mx (1 : Int32) x4)), (6, .int r12), (0, .ref fw), (1, .int x1), (2, .int x2), (3, .int x3), (4, .int x4), (5, .int x5)]) hx hb d_FW_writeFrame_33 hl (by decide) rfl (fun ls hl => ?_)
  exact k_FW_writeFrame_35 C hK hA x1 x5 (mx (1 : Int32) x4) gn gf hsn hsf  N r12 (0 : Int32) tn_12 tf_12 mc_21 ms ml dn_21 df_21 laf_21 eaf pkn pkf hf _ _ hP hD hS _ (lv_sub hl [3, 4, 8, 2, 1, 0] rfl)
end
noncomputable abbrev f_FW_writeFrame (N : Nat) (x1 : Int32) (x2 : Int32) (x3 : Int32) (x4 : Int32) (x5 : Int32) (gn : Int32) (gf : Nat → Int32) (tn : Int32) (tf : Nat → Int32) (ms : Int32) (ml : Int32) (dn : Int32) (df : Nat → Int32) (laf : Nat → Int32) (eaf : Nat → Int32) (hsn : Int32) (hsf : Nat → Int32) (pkn : Int32) (pkf : Nat → Int32) : Option (Int32 × Int32 × (Nat → Int32) × Int32 × Int32 × Int32 × Int32 × (Nat → Int32) × (Nat → Int32) × (Nat → Int32) × Int32 × (Nat → Int32)) := j_FW_writeFrame_0 N x1 x2 x3 x4 x5 gn gf tn tf ms ml dn df laf eaf hsn hsf pkn pkf
set_option maxRecDepth 100000 in
theorem c_FW_writeFrame {N : Nat} (l : Launch) (dC : Nat → ClassId) (dI : Nat → Nat → Nat) (cB cI cJ : ClassId) (fw g ga t ta bw mt d da la ea hs hsa pk pka : Nat) (gn : Int32) (gf : Nat → Int32) (tn : Int32) (tf : Nat → Int32) (mc : Int32) (ms : Int32) (ml : Int32) (dn : Int32) (df : Nat → Int32) (laf : Nat → Int32) (eaf : Nat → Int32) (hsn : Int32) (hsf : Nat → Int32) (pkn : Int32) (pkf : Nat → Int32) (x1 : Int32) (x2 : Int32) (x3 : Int32) (x4 : Int32) (x5 : Int32) {r_z : Int32} {tn_z : Int32} {tf_z : Nat → Int32} {mc_z : Int32} {ms_z : Int32} {ml_z : Int32} {dn_z : Int32} {df_z : Nat → Int32} {laf_z : Nat → Int32} {eaf_z : Nat → Int32} {pkn_z : Int32} {pkf_z : Nat → Int32} (hf : f_FW_writeFrame N x1 x2 x3 x4 x5 gn gf tn tf ms ml dn df laf eaf hsn hsf pkn pkf = some (r_z, tn_z, tf_z, mc_z, ms_z, ml_z, dn_z, df_z, laf_z, eaf_z, pkn_z, pkf_z)) : MetI l y_FW_writeFrame ws_FW_writeFrame rm_FW_writeFrame (dC, dI) vwCl [(cB, .byte), (cI, .int), (cJ, .long)] [.ref fw, .int x1, .int x2, .int x3, .int x4, .int x5] (wd_FW_writeFrame fw g ga t ta bw mt d da la ea hs hsa pk pka cB cI cJ gn gf tn tf mc ms ml dn df laf eaf hsn hsf pkn pkf) r_z (wd_FW_writeFrame fw g ga t ta bw mt d da la ea hs hsa pk pka cB cI cJ gn gf tn_z tf_z mc_z ms_z ml_z dn_z df_z laf_z eaf_z hsn hsf pkn_z pkf_z) 0 0 :=
  s_ofi (bytes := cd_FW_writeFrame) (maxL := 9) (ret := (some .boolean)) (by decide) rfl (Nat.le_of_ble_eq_true rfl) (fun p e s m below meth c A ls C hK hA hP hD hS hl => k_FW_writeFrame_0 C hK hA x1 x2 x3 x4 x5 gn gf tn tf mc ms ml dn df laf eaf hsn hsf pkn pkf hf hP hD hS (lv_sub hl [0, 1, 2, 3, 4, 5] rfl))

abbrev rm_FW_init : Room := { frames := 2, cells := 2, slots := 8002, locals := 35 }
abbrev wn_FW_init (cB cI cJ : ClassId) (h0 : Nat) (a1 a2 a3 : Nat) : (Nat × Nat) → va_W := (fun (u : Nat × Nat) => ([(h0, .inr (4, [.ref a1, .ref a2, .ref a3, .ref u.1])), (u.1, .inr (1, [.ref u.2, .int (0 : Int32)])), (u.2, .inl (cB, 8000, .inl (fun _ => 0)))] : va_W))
set_option maxHeartbeats 4000000 in
set_option maxRecDepth 100000 in
theorem c_FW_init (l : Launch) (dC : Nat → ClassId) (dI : Nat → Nat → Nat) (cB cI cJ : ClassId) (h0 : Nat) (a1 a2 a3 : Nat) : MetN l y_FW_init ws_FW_init rm_FW_init (dC, dI) vwCl [(cB, .byte), (cI, .int), (cJ, .long)] [.ref h0, .ref a1, .ref a2, .ref a3] [(h0, .inr (4, [.null, .null, .null, .null]))] (wn_FW_init cB cI cJ h0 a1 a2 a3) 2 8002 := by
  refine s_ofn (bytes := cd_FW_init) (maxL := 4) (ret := none) (by decide) rfl (Nat.le_of_ble_eq_true rfl) ?_
  intro p e s m below meth c A ls C hin hK hA hP hD hS hl
  obtain ⟨hx, hb, hml, hown, hts, hr, hlocks, hZ⟩ := id C
  have hl : lv_has ls 4 [(0, .ref h0), (1, .ref a1), (2, .ref a2), (3, .ref a3)] := hl
  refine lv_aload_n hx hb d_FW_init_0 rfl (lv_at hl 0 rfl) ?_
  refine W.objInit hx hb hown (hts _ w_515) (hts _ w_495) (hts _ w_496) rfl (by rw [hml]; exact hl.1) rfl d_FW_init_1 (Nat.le_of_ble_eq_true rfl) (Nat.le_of_ble_eq_true rfl) ?_
  refine W.eq (g2 := F0 m 4 ls []) rfl ?_
  refine lv_aload_n hx hb d_FW_init_4 rfl (lv_at hl 0 rfl) ?_
  refine lv_aload_n hx hb d_FW_init_5 rfl (lv_at hl 1 rfl) ?_
  refine va_putF (D := (dC, dI)) (ci := 4) (v := .ref a1) (ty := .object "TokenFrames$Row") (C := R_FW) (T := T_FW) (N := 4) hx hb hts w_166 ty_FW ty_FW_ok nm_FW hown hK hP hD hS 0 rfl rfl 0 (by decide) (hts _ w_178) (fun _ h9 => h9) rfl hin rfl (by decide +kernel) rfl rfl (Nat.le_of_ble_eq_true rfl) d_FW_init_6 (fun H locs hP hD hS => ?_)
  have hP : va_P (dC, dI) vwCl [(h0, .inr (4, [.ref a1, .null, .null, .null]))] H := hP
  have hD : va_D A [(h0, .inr (4, [.ref a1, .null, .null, .null]))] := hD
  refine lv_aload_n hx hb d_FW_init_9 rfl (lv_at hl 0 rfl) ?_
  refine lv_aload_n hx hb d_FW_init_10 rfl (lv_at hl 2 rfl) ?_
  refine va_putF (D := (dC, dI)) (ci := 4) (v := .ref a2) (ty := .object "TokenFrames$Row") (C := R_FW) (T := T_FW) (N := 4) hx hb hts w_166 ty_FW ty_FW_ok nm_FW hown hK hP hD hS 0 rfl rfl 1 (by decide) (hts _ w_167) (fun _ h9 => h9) rfl hin rfl (by decide +kernel) rfl rfl (Nat.le_of_ble_eq_true rfl) d_FW_init_11 (fun H locs hP hD hS => ?_)
  have hP : va_P (dC, dI) vwCl [(h0, .inr (4, [.ref a1, .ref a2, .null, .null]))] H := hP
  have hD : va_D A [(h0, .inr (4, [.ref a1, .ref a2, .null, .null]))] := hD
  refine lv_aload_n hx hb d_FW_init_14 rfl (lv_at hl 0 rfl) ?_
  refine lv_aload_n hx hb d_FW_init_15 rfl (lv_at hl 3 rfl) ?_
  refine va_putF (D := (dC, dI)) (ci := 4) (v := .ref a3) (ty := .object "TokenFrames$BlockWriter") (C := R_FW) (T := T_FW) (N := 4) hx hb hts w_166 ty_FW ty_FW_ok nm_FW hown hK hP hD hS 0 rfl rfl 2 (by decide) (hts _ w_188) (fun _ h9 => h9) rfl hin rfl (by decide +kernel) rfl rfl (Nat.le_of_ble_eq_true rfl) d_FW_init_16 (fun H locs hP hD hS => ?_)
  have hP : va_P (dC, dI) vwCl [(h0, .inr (4, [.ref a1, .ref a2, .ref a3, .null]))] H := hP
  have hD : va_D A [(h0, .inr (4, [.ref a1, .ref a2, .ref a3, .null]))] := hD
  refine lv_aload_n hx hb d_FW_init_19 rfl (lv_at hl 0 rfl) ?_
  refine va_new (ci := 1) (fs := [.null, .int (0 : Int32)]) (C := R_Row) (T := T_Row) (N := 2) hx hb hts w_0 ty_Row ty_Row_ok hown (hts _ w_516) (hts _ w_500) (hts _ w_12) hK hP hD hS hA rfl (fun j hj => by rcases (show j = 0 ∨ j = 1 by omega) with rfl | rfl <;> rfl) (Nat.le_of_ble_eq_true rfl) (Nat.le_of_ble_eq_true rfl) d_FW_init_20 (fun q20 H hP hD hS => ?_)
  have hP : va_P (dC, dI) vwCl [(h0, .inr (4, [.ref a1, .ref a2, .ref a3, .null])), (q20, .inr (1, [.null, .int (0 : Int32)]))] H := hP
  have hD : va_D A [(h0, .inr (4, [.ref a1, .ref a2, .ref a3, .null])), (q20, .inr (1, [.null, .int (0 : Int32)]))] := hD
  refine W.widen (k := 1) (n := 2) (Nat.le_of_ble_eq_true rfl) (Nat.le_of_ble_eq_true rfl) ?_
  refine lv_dup hx hb d_FW_init_23 rfl ?_
  refine lv_sipush (v := 8000) hx hb d_FW_init_24 (by decide) ?_
  refine s_In (As := [.int (8000 : Int32)]) (rest := [.ref q20, .ref h0]) (wr := [(h0, .inr (4, [.ref a1, .ref a2, .ref a3, .null]))]) C.call (c_Row_init8 l dC dI cB cI cJ q20 ) (cwI 1 hts (gd_c w_501) rfl rfl rfl (hts _ w_12) (hts _ w_517) (hts _ w_503) rfl hd_Row_init ⟨Nat.le_of_ble_eq_true rfl, Nat.le_of_ble_eq_true rfl⟩) rfl hl.1 rfl (Nat.le_of_ble_eq_true rfl) d_FW_init_27 ⟨Nat.le_of_ble_eq_true rfl, Nat.le_of_ble_eq_true rfl⟩ hZ hK hP hD hS hA [1] [0] rfl rfl rfl rfl (by decide) (fun u_27 H locs hP hD hS => ?_)
  obtain ⟨q27_0, rfl⟩ : ∃ z, z = u_27 := ⟨_, rfl⟩
  have hP : va_P (dC, dI) vwCl [(h0, .inr (4, [.ref a1, .ref a2, .ref a3, .null])), (q20, .inr (1, [.ref q27_0, .int (0 : Int32)])), (q27_0, .inl (cB, 8000, .inl (fun _ => 0)))] H := hP
  have hD : va_D A [(h0, .inr (4, [.ref a1, .ref a2, .ref a3, .null])), (q20, .inr (1, [.ref q27_0, .int (0 : Int32)])), (q27_0, .inl (cB, 8000, .inl (fun _ => 0)))] := hD
  refine W.widen (k := 2) (n := 8002) (Nat.le_of_ble_eq_true rfl) (Nat.le_of_ble_eq_true rfl) ?_
  refine va_putF (D := (dC, dI)) (ci := 4) (v := .ref q20) (ty := .object "TokenFrames$Row") (C := R_FW) (T := T_FW) (N := 4) hx hb hts w_166 ty_FW ty_FW_ok nm_FW hown hK hP hD hS 0 rfl rfl 3 (by decide) (hts _ w_186) (fun _ h9 => h9) rfl hin rfl (by decide +kernel) rfl rfl (Nat.le_of_ble_eq_true rfl) d_FW_init_30 (fun H locs hP hD hS => ?_)
  have hP : va_P (dC, dI) vwCl [(h0, .inr (4, [.ref a1, .ref a2, .ref a3, .ref q20])), (q20, .inr (1, [.ref q27_0, .int (0 : Int32)])), (q27_0, .inl (cB, 8000, .inl (fun _ => 0)))] H := hP
  have hD : va_D A [(h0, .inr (4, [.ref a1, .ref a2, .ref a3, .ref q20])), (q20, .inr (1, [.ref q27_0, .int (0 : Int32)])), (q27_0, .inl (cB, 8000, .inl (fun _ => 0)))] := hD
  exact s_nret (wn := wn_FW_init cB cI cJ h0 a1 a2 a3) (q20, q27_0) hx hb hr hlocks hP hK hD hS d_FW_init_33
