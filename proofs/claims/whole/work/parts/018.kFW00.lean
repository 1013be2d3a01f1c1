abbrev wd_FW_addHead (fw g t ta bw pk ga : Nat) (cB cI cJ : ClassId) (gn : Int32) (tn : Int32) (tf : Nat → Int32) : va_W := [(fw, .inr (4, [.ref g, .ref t, .ref bw, .ref pk])), (g, .inr (1, [.ref ga, .int gn])), (t, .inr (1, [.ref ta, .int tn])), (ta, .inl (cB, 8000, .inl tf))]
abbrev rm_FW_addHead : Room := { frames := 4, cells := 0, slots := 0, locals := 94 }
section
variable {p : Program} {l : Launch} {e : Env} {s : State} {m : MethodId} {args : Array Value} {below : List Frame} {meth : Method} {c : Code} {dC : Nat → ClassId} {dI : Nat → Nat → Nat} {A : Nat → Prop} {cB cI cJ : ClassId} {H : Heap} {locs : List Loc} {ls : Array Slot} {N : Nat} {fw g t ta bw pk ga : Nat}
noncomputable def j_FW_addHead_133 (N : Nat) (x4 : Int32) (x5 : Int32) (tn : Int32) (tf : Nat → Int32)  : Option (Int32 × Int32 × (Nat → Int32)) :=
  (if x4 = 0 then (some ((0 : Int32), tn, tf) : Option (Int32 × Int32 × (Nat → Int32))) else bd1 (f_Row_count tn) (fun r152 => bd1 (f_Sum_of N 8000 x5 r152 tn tf) (fun r155 => bd3 (f_Row_add 8000 (r155 >>> ((8 : Int32) &&& 31)) tn tf) (fun r161 tn_161 tf_161 => (if r161 = 0 then (some ((0 : Int32), tn_161, tf_161) : Option (Int32 × Int32 × (Nat → Int32))) else (some ((1 : Int32), tn_161, tf_161) : Option (Int32 × Int32 × (Nat → Int32))))))))
set_option maxHeartbeats 4000000 in
set_option maxRecDepth 100000 in
theorem k_FW_addHead_133 {r_z : Int32} {tn_z : Int32} {tf_z : Nat → Int32} (C : Fx p s m args meth c cd_FW_addHead 6 R_FW lw_g (some .boolean)) (hK : va_K (dC, dI) vwCl [(cB, .byte), (cI, .int), (cJ, .long)] s) (hA : ∀ q, s.heap.size ≤ q → A q) (x4 : Int32) (x5 : Int32) (gn : Int32) (tn : Int32) (tf : Nat → Int32)  (hf : j_FW_addHead_133 N x4 x5 tn tf  = some (r_z, tn_z, tf_z)) (hP : va_P (dC, dI) vwCl (wd_FW_addHead fw g t ta bw pk ga cB cI cJ gn tn tf) H) (hD : va_D A (wd_FW_addHead fw g t ta bw pk ga cB cI cJ gn tn tf)) (hS : va_S A s.heap H locs) (hl : lv_has ls 6 [(0, .ref fw), (4, .int x4), (5, .int x5)]) : W p l e rm_FW_addHead s m args below meth c H locs 0 0 (MQ below (sQi (dC, dI) vwCl [(cB, .byte), (cI, .int), (cJ, .long)] A r_z (wd_FW_addHead fw g t ta bw pk ga cB cI cJ gn tn_z tf_z)) args s 0 0 A) (F0 m 133 ls []) := by
  obtain ⟨hx, hb, hml, hown, hts, hr, hlocks, hZ⟩ := id C
  unfold j_FW_addHead_133 at hf
  refine lv_iload hx hb d_FW_addHead_133 (lv_at hl 1 rfl) ?_
  refine lv_if_eq (tgt := 171) hx hb d_FW_addHead_135 (by decide) (fun c_135 => ?_) (fun c_135 => ?_)
  · have hf := br_pos c_135 hf
    refine lv_iconst (v := 0) hx hb d_FW_addHead_171 (by decide) ?_
    cases hf
    exact s_zret hx hb hr (by decide) hlocks hP hK hD hS d_FW_addHead_172
  · have hf := br_neg c_135 hf
    refine lv_aload_n hx hb d_FW_addHead_138 rfl (lv_at hl 0 rfl) ?_
    refine va_get (D := (dC, dI)) (ci := 4) (v := .ref t) (C := R_FW) (T := T_FW) (N := 4) hx hb hts w_166 hown hK hP 0 rfl rfl 1 (by decide) (hts _ w_167) (fun _ h9 => h9) rfl d_FW_addHead_139 ?_
    refine lv_aload_n hx hb d_FW_addHead_142 rfl (lv_at hl 0 rfl) ?_
    refine va_get (D := (dC, dI)) (ci := 4) (v := .ref t) (C := R_FW) (T := T_FW) (N := 4) hx hb hts w_166 hown hK hP 0 rfl rfl 1 (by decide) (hts _ w_167) (fun _ h9 => h9) rfl d_FW_addHead_143 ?_
    refine lv_iload hx hb d_FW_addHead_146 (lv_at hl 2 rfl) ?_
    refine lv_aload_n hx hb d_FW_addHead_148 rfl (lv_at hl 0 rfl) ?_
    refine va_get (D := (dC, dI)) (ci := 4) (v := .ref t) (C := R_FW) (T := T_FW) (N := 4) hx hb hts w_166 hown hK hP 0 rfl rfl 1 (by decide) (hts _ w_167) (fun _ h9 => h9) rfl d_FW_addHead_149 ?_
    obtain ⟨r152, hc152, hf⟩ := bd1_some hf
    refine s_Vi (As := []) (rest := [.int x5, .ref t, .ref t]) (wr := [(fw, .inr (4, [.ref g, .ref t, .ref bw, .ref pk])), (g, .inr (1, [.ref ga, .int gn])), (ta, .inl (cB, 8000, .inl tf))]) (ws' := wd_FW_addHead fw g t ta bw pk ga cB cI cJ gn tn tf) C.call (c_Row_count l dC dI cB cI cJ t ta  tn  hc152) (cwV 0 hts (gd_V w_173 w_10 w_11 w_12 w_13) rfl rfl rfl ⟨rfl, hd_Row_count⟩ ⟨Nat.le_of_ble_eq_true rfl, Nat.le_of_ble_eq_true rfl⟩) rfl hl.1 rfl (Nat.le_of_ble_eq_true rfl) d_FW_addHead_152 ⟨Nat.le_of_ble_eq_true rfl, Nat.le_of_ble_eq_true rfl⟩ hZ hK hP hD hS hA 1 2 rfl rfl [2] [0, 1, 3] [0, 1, 3, 2] rfl rfl rfl rfl (by decide) rfl rfl (fun H locs hP hD hS => ?_)
    obtain ⟨r155, hc155, hf⟩ := bd1_some hf
    refine s_Si (As := [.ref t, .int x5, .int r152]) (rest := [.ref t]) (wr := [(fw, .inr (4, [.ref g, .ref t, .ref bw, .ref pk])), (g, .inr (1, [.ref ga, .int gn]))]) (ws' := wd_FW_addHead fw g t ta bw pk ga cB cI cJ gn tn tf) C.call (c_Sum_of l dC dI cB cI cJ t ta 8000 tn tf x5 r152 hc155) (va_cwS 3 hts (gd_S w_174 w_175 w_149 w_176) rfl rfl rfl hd_Sum_of ⟨Nat.le_of_ble_eq_true rfl, Nat.le_of_ble_eq_true rfl⟩) rfl hl.1 rfl (Nat.le_of_ble_eq_true rfl) d_FW_addHead_155 ⟨Nat.le_of_ble_eq_true rfl, Nat.le_of_ble_eq_true rfl⟩ hZ hK hP hD hS hA [2, 3] [0, 1] [0, 1, 2, 3] rfl rfl rfl rfl (by decide) rfl rfl (fun H locs hP hD hS => ?_)
    refine lv_bipush (v := 8) hx hb d_FW_addHead_158 (by decide) ?_
    refine lv_ishr hx hb d_FW_addHead_160 ?_
    obtain ⟨r161, tn_161, tf_161, hc161, hf⟩ := bd3_some hf
    refine s_Vi (As := [.int (r155 >>> ((8 : Int32) &&& 31))]) (rest := []) (wr := [(fw, .inr (4, [.ref g, .ref t, .ref bw, .ref pk])), (g, .inr (1, [.ref ga, .int gn]))]) (ws' := wd_FW_addHead fw g t ta bw pk ga cB cI cJ gn tn_161 tf_161) C.call (c_Row_add l dC dI cB cI cJ t ta 8000 tn tf (r155 >>> ((8 : Int32) &&& 31)) hc161) (cwV 1 hts (gd_V w_177 w_41 w_42 w_12 w_43) rfl rfl rfl ⟨rfl, hd_Row_add⟩ ⟨Nat.le_of_ble_eq_true rfl, Nat.le_of_ble_eq_true rfl⟩) rfl hl.1 rfl (Nat.le_of_ble_eq_true rfl) d_FW_addHead_161 ⟨Nat.le_of_ble_eq_true rfl, Nat.le_of_ble_eq_true rfl⟩ hZ hK hP hD hS hA 1 2 rfl rfl [2, 3] [0, 1] [0, 1, 2, 3] rfl rfl rfl rfl (by decide) rfl rfl (fun H locs hP hD hS => ?_)
    refine lv_if_eq (tgt := 171) hx hb d_FW_addHead_164 (by decide) (fun c_164 => ?_) (fun c_164 => ?_)
    · have hf := br_pos c_164 hf
      refine lv_iconst (v := 0) hx hb d_FW_addHead_171 (by decide) ?_
      cases hf
      exact s_zret hx hb hr (by decide) hlocks hP hK hD hS d_FW_addHead_172
    · have hf := br_neg c_164 hf
      refine lv_iconst (v := 1) hx hb d_FW_addHead_167 (by decide) ?_
      refine lv_goto (tgt := 172) hx hb d_FW_addHead_168 (by decide) ?_
      cases hf
      exact s_zret hx hb hr (by decide) hlocks hP hK hD hS d_FW_addHead_172
noncomputable def j_FW_addHead_131 (N : Nat) (x5 : Int32) (t0 : Int32) (tn : Int32) (tf : Nat → Int32)  : Option (Int32 × Int32 × (Nat → Int32)) :=
  (j_FW_addHead_133 N t0 x5 tn tf )
set_option maxHeartbeats 4000000 in
set_option maxRecDepth 100000 in
theorem k_FW_addHead_131 {r_z : Int32} {tn_z : Int32} {tf_z : Nat → Int32} (C : Fx p s m args meth c cd_FW_addHead 6 R_FW lw_g (some .boolean)) (hK : va_K (dC, dI) vwCl [(cB, .byte), (cI, .int), (cJ, .long)] s) (hA : ∀ q, s.heap.size ≤ q → A q) (x5 : Int32) (t0 : Int32) (gn : Int32) (tn : Int32) (tf : Nat → Int32)  (hf : j_FW_addHead_131 N x5 t0 tn tf  = some (r_z, tn_z, tf_z)) (hP : va_P (dC, dI) vwCl (wd_FW_addHead fw g t ta bw pk ga cB cI cJ gn tn tf) H) (hD : va_D A (wd_FW_addHead fw g t ta bw pk ga cB cI cJ gn tn tf)) (hS : va_S A s.heap H locs) (hl : lv_has ls 6 [(0, .ref fw), (5, .int x5)]) : W p l e rm_FW_addHead s m args below meth c H locs 0 0 (MQ below (sQi (dC, dI) vwCl [(cB, .byte), (cI, .int), (cJ, .long)] A r_z (wd_FW_addHead fw g t ta bw pk ga cB cI cJ gn tn_z tf_z)) args s 0 0 A) (F0 m 131 ls [.int t0]) := by
  obtain ⟨hx, hb, hml, hown, hts, hr, hlocks, hZ⟩ := id C
  unfold j_FW_addHead_131 at hf
  refine lv_istore (lv' := [(4, .int t0), (0, .ref fw), (5, .int x5)]) hx hb d_FW_addHead_131 hl (by decide) rfl (fun ls hl => ?_)
  exact k_FW_addHead_133 C hK hA t0 x5 gn tn tf  hf hP hD hS (lv_sub hl [1, 0, 2] rfl)
noncomputable def j_FW_addHead_130 (N : Nat) (x5 : Int32) (tn : Int32) (tf : Nat → Int32)  : Option (Int32 × Int32 × (Nat → Int32)) :=
  (j_FW_addHead_131 N x5 (0 : Int32) tn tf )
set_option maxHeartbeats 4000000 in
set_option maxRecDepth 100000 in
theorem k_FW_addHead_130 {r_z : Int32} {tn_z : Int32} {tf_z : Nat → Int32} (C : Fx p s m args meth c cd_FW_addHead 6 R_FW lw_g (some .boolean)) (hK : va_K (dC, dI) vwCl [(cB, .byte), (cI, .int), (cJ, .long)] s) (hA : ∀ q, s.heap.size ≤ q → A q) (x5 : Int32) (gn : Int32) (tn : Int32) (tf : Nat → Int32)  (hf : j_FW_addHead_130 N x5 tn tf  = some (r_z, tn_z, tf_z)) (hP : va_P (dC, dI) vwCl (wd_FW_addHead fw g t ta bw pk ga cB cI cJ gn tn tf) H) (hD : va_D A (wd_FW_addHead fw g t ta bw pk ga cB cI cJ gn tn tf)) (hS : va_S A s.heap H locs) (hl : lv_has ls 6 [(0, .ref fw), (5, .int x5)]) : W p l e rm_FW_addHead s m args below meth c H locs 0 0 (MQ below (sQi (dC, dI) vwCl [(cB, .byte), (cI, .int), (cJ, .long)] A r_z (wd_FW_addHead fw g t ta bw pk ga cB cI cJ gn tn_z tf_z)) args s 0 0 A) (F0 m 130 ls []) := by
  obtain ⟨hx, hb, hml, hown, hts, hr, hlocks, hZ⟩ := id C
  unfold j_FW_addHead_130 at hf
  refine lv_iconst (v := 0) hx hb d_FW_addHead_130 (by decide) ?_
  exact k_FW_addHead_131 C hK hA x5 (0 : Int32) gn tn tf  hf hP hD hS (lv_sub hl [0, 1] rfl)
noncomputable def j_FW_addHead_104 (N : Nat) (x1 : Int32) (x3 : Int32) (x4 : Int32) (x5 : Int32) (tn : Int32) (tf : Nat → Int32)  : Option (Int32 × Int32 × (Nat → Int32)) :=
  (if (x1 &&& (1 : Int32)) = 0 then (j_FW_addHead_133 N x4 x5 tn tf ) else (if x4 = 0 then (j_FW_addHead_130 N x5 tn tf ) else bd3 (f_Row_addWord 8000 x3 tn tf) (fun r120 tn_120 tf_120 => (if r120 = 0 then (j_FW_addHead_130 N x5 tn_120 tf_120 ) else (j_FW_addHead_131 N x5 (1 : Int32) tn_120 tf_120 )))))
set_option maxHeartbeats 4000000 in
set_option maxRecDepth 100000 in
theorem k_FW_addHead_104 {r_z : Int32} {tn_z : Int32} {tf_z : Nat → Int32} (C : Fx p s m args meth c cd_FW_addHead 6 R_FW lw_g (some .boolean)) (hK : va_K (dC, dI) vwCl [(cB, .byte), (cI, .int), (cJ, .long)] s) (hA : ∀ q, s.heap.size ≤ q → A q) (x1 : Int32) (x3 : Int32) (x4 : Int32) (x5 : Int32) (gn : Int32) (tn : Int32) (tf : Nat → Int32)  (hf : j_FW_addHead_104 N x1 x3 x4 x5 tn tf  = some (r_z, tn_z, tf_z)) (hP : va_P (dC, dI) vwCl (wd_FW_addHead fw g t ta bw pk ga cB cI cJ gn tn tf) H) (hD : va_D A (wd_FW_addHead fw g t ta bw pk ga cB cI cJ gn tn tf)) (hS : va_S A s.heap H locs) (hl : lv_has ls 6 [(0, .ref fw), (1, .int x1), (3, .int x3), (4, .int x4), (5, .int x5)]) : W p l e rm_FW_addHead s m args below meth c H locs 0 0 (MQ below (sQi (dC, dI) vwCl [(cB, .byte), (cI, .int), (cJ, .long)] A r_z (wd_FW_addHead fw g t ta bw pk ga cB cI cJ gn tn_z tf_z)) args s 0 0 A) (F0 m 104 ls []) := by
  obtain ⟨hx, hb, hml, hown, hts, hr, hlocks, hZ⟩ := id C
  unfold j_FW_addHead_104 at hf
  refine lv_iload_n hx hb d_FW_addHead_104 rfl (lv_at hl 1 rfl) ?_
  refine lv_iconst (v := 1) hx hb d_FW_addHead_105 (by decide) ?_
  refine lv_iand hx hb d_FW_addHead_106 ?_
  refine lv_if_eq (tgt := 133) hx hb d_FW_addHead_107 (by decide) (fun c_107 => ?_) (fun c_107 => ?_)
  · have hf := br_pos c_107 hf
    exact k_FW_addHead_133 C hK hA x4 x5 gn tn tf  hf hP hD hS (lv_sub hl [0, 3, 4] rfl)
  · have hf := br_neg c_107 hf
    refine lv_iload hx hb d_FW_addHead_110 (lv_at hl 3 rfl) ?_
    refine lv_if_eq (tgt := 130) hx hb d_FW_addHead_112 (by decide) (fun c_112 => ?_) (fun c_112 => ?_)
    · have hf := br_pos c_112 hf
      exact k_FW_addHead_130 C hK hA x5 gn tn tf  hf hP hD hS (lv_sub hl [0, 4] rfl)
    · have hf := br_neg c_112 hf
      refine lv_aload_n hx hb d_FW_addHead_115 rfl (lv_at hl 0 rfl) ?_
      refine va_get (D := (dC, dI)) (ci := 4) (v := .ref t) (C := R_FW) (T := T_FW) (N := 4) hx hb hts w_166 hown hK hP 0 rfl rfl 1 (by decide) (hts _ w_167) (fun _ h9 => h9) rfl d_FW_addHead_116 ?_
      refine lv_iload_n hx hb d_FW_addHead_119 rfl (lv_at hl 2 rfl) ?_
      obtain ⟨r120, tn_120, tf_120, hc120, hf⟩ := bd3_some hf
      refine s_Vi (As := [.int x3]) (rest := []) (wr := [(fw, .inr (4, [.ref g, .ref t, .ref bw, .ref pk])), (g, .inr (1, [.ref ga, .int gn]))]) (ws' := wd_FW_addHead fw g t ta bw pk ga cB cI cJ gn tn_120 tf_120) C.call (c_Row_addWord l dC dI cB cI cJ t ta 8000 tn tf x3 hc120) (cwV 1 hts (gd_V w_169 w_170 w_171 w_12 w_172) rfl rfl rfl ⟨rfl, hd_Row_addWord⟩ ⟨Nat.le_of_ble_eq_true rfl, Nat.le_of_ble_eq_true rfl⟩) rfl hl.1 rfl (Nat.le_of_ble_eq_true rfl) d_FW_addHead_120 ⟨Nat.le_of_ble_eq_true rfl, Nat.le_of_ble_eq_true rfl⟩ hZ hK hP hD hS hA 1 2 rfl rfl [2, 3] [0, 1] [0, 1, 2, 3] rfl rfl rfl rfl (by decide) rfl rfl (fun H locs hP hD hS => ?_)
      refine lv_if_eq (tgt := 130) hx hb d_FW_addHead_123 (by decide) (fun c_123 => ?_) (fun c_123 => ?_)
      · have hf := br_pos c_123 hf
        exact k_FW_addHead_130 C hK hA x5 gn tn_120 tf_120  hf hP hD hS (lv_sub hl [0, 4] rfl)
      · have hf := br_neg c_123 hf
        refine lv_iconst (v := 1) hx hb d_FW_addHead_126 (by decide) ?_
        refine lv_goto (tgt := 131) hx hb d_FW_addHead_127 (by decide) ?_
        exact k_FW_addHead_131 C hK hA x5 (1 : Int32) gn tn_120 tf_120  hf hP hD hS (lv_sub hl [0, 4] rfl)
noncomputable def j_FW_addHead_102 (N : Nat) (x1 : Int32) (x3 : Int32) (x5 : Int32) (t0 : Int32) (tn : Int32) (tf : Nat → Int32)  : Option (Int32 × Int32 × (Nat → Int32)) :=
  (j_FW_addHead_104 N x1 x3 t0 x5 tn tf )
set_option maxHeartbeats 4000000 in
set_option maxRecDepth 100000 in
theorem k_FW_addHead_102 {r_z : Int32} {tn_z : Int32} {tf_z : Nat → Int32} (C : Fx p s m args meth c cd_FW_addHead 6 R_FW lw_g (some .boolean)) (hK : va_K (dC, dI) vwCl [(cB, .byte), (cI, .int), (cJ, .long)] s) (hA : ∀ q, s.heap.size ≤ q → A q) (x1 : Int32) (x3 : Int32) (x5 : Int32) (t0 : Int32) (gn : Int32) (tn : Int32) (tf : Nat → Int32)  (hf : j_FW_addHead_102 N x1 x3 x5 t0 tn tf  = some (r_z, tn_z, tf_z)) (hP : va_P (dC, dI) vwCl (wd_FW_addHead fw g t ta bw pk ga cB cI cJ gn tn tf) H) (hD : va_D A (wd_FW_addHead fw g t ta bw pk ga cB cI cJ gn tn tf)) (hS : va_S A s.heap H locs) (hl : lv_has ls 6 [(0, .ref fw), (1, .int x1), (3, .int x3), (5, .int x5)]) : W p l e rm_FW_addHead s m args below meth c H locs 0 0 (MQ below (sQi (dC, dI) vwCl [(cB, .byte), (cI, .int), (cJ, .long)] A r_z (wd_FW_addHead fw g t ta bw pk ga cB cI cJ gn tn_z tf_z)) args s 0 0 A) (F0 m 102 ls [.int t0]) := by
  obtain ⟨hx, hb, hml, hown, hts, hr, hlocks, hZ⟩ := id C
  unfold j_FW_addHead_102 at hf
  refine lv_istore (lv' := [(4, .int t0), (0, .ref fw), (1, .int x1), (3, .int x3), (5, .int x5)]) hx hb d_FW_addHead_102 hl (by decide) rfl (fun ls hl => ?_)
  exact k_FW_addHead_104 C hK hA x1 x3 t0 x5 gn tn tf  hf hP hD hS (lv_sub hl [1, 2, 3, 0, 4] rfl)
noncomputable def j_FW_addHead_101 (N : Nat) (x1 : Int32) (x3 : Int32) (x5 : Int32) (tn : Int32) (tf : Nat → Int32)  : Option (Int32 × Int32 × (Nat → Int32)) :=
  (j_FW_addHead_102 N x1 x3 x5 (0 : Int32) tn tf )
set_option maxHeartbeats 4000000 in
set_option maxRecDepth 100000 in
theorem k_FW_addHead_101 {r_z : Int32} {tn_z : Int32} {tf_z : Nat → Int32} (C : Fx p s m args meth c cd_FW_addHead 6 R_FW lw_g (some .boolean)) (hK : va_K (dC, dI) vwCl [(cB, .byte), (cI, .int), (cJ, .long)] s) (hA : ∀ q, s.heap.size ≤ q → A q) (x1 : Int32) (x3 : Int32) (x5 : Int32) (gn : Int32) (tn : Int32) (tf : Nat → Int32)  (hf : j_FW_addHead_101 N x1 x3 x5 tn tf  = some (r_z, tn_z, tf_z)) (hP : va_P (dC, dI) vwCl (wd_FW_addHead fw g t ta bw pk ga cB cI cJ gn tn tf) H) (hD : va_D A (wd_FW_addHead fw g t ta bw pk ga cB cI cJ gn tn tf)) (hS : va_S A s.heap H locs) (hl : lv_has ls 6 [(0, .ref fw), (1, .int x1), (3, .int x3), (5, .int x5)]) : W p l e rm_FW_addHead s m args below meth c H locs 0 0 (MQ below (sQi (dC, dI) vwCl [(cB, .byte), (cI, .int), (cJ, .long)] A r_z (wd_FW_addHead fw g t ta bw pk ga cB cI cJ gn tn_z tf_z)) args s 0 0 A) (F0 m 101 ls []) := by
  obtain ⟨hx, hb, hml, hown, hts, hr, hlocks, hZ⟩ := id C
  unfold j_FW_addHead_101 at hf
  refine lv_iconst (v := 0) hx hb d_FW_addHead_101 (by decide) ?_
  exact k_FW_addHead_102 C hK hA x1 x3 x5 (0 : Int32) gn tn tf  hf hP hD hS (lv_sub hl [0, 1, 2, 3] rfl)
noncomputable def j_FW_addHead_55 (N : Nat) (x1 : Int32) (x3 : Int32) (x5 : Int32) (t0 : Int32) (gn : Int32) (tn : Int32) (tf : Nat → Int32)  : Option (Int32 × Int32 × (Nat → Int32)) :=
  (if (x1 &&& (8 : Int32)) = 0 then (j_FW_addHead_104 N x1 x3 t0 x5 tn tf ) else (if t0 = 0 then (j_FW_addHead_101 N x1 x3 x5 tn tf ) else bd1 (f_Row_count gn) (fun r77 => bd3 (f_Row_addWord 8000 r77 tn tf) (fun r80 tn_80 tf_80 => (if r80 = 0 then (j_FW_addHead_101 N x1 x3 x5 tn_80 tf_80 ) else bd3 (f_Row_addWord 8000 (0 : Int32) tn_80 tf_80) (fun r91 tn_91 tf_91 => (if r91 = 0 then (j_FW_addHead_101 N x1 x3 x5 tn_91 tf_91 ) else (j_FW_addHead_102 N x1 x3 x5 (1 : Int32) tn_91 tf_91 ))))))))
set_option maxHeartbeats 4000000 in
set_option maxRecDepth 100000 in
theorem k_FW_addHead_55 {r_z : Int32} {tn_z : Int32} {tf_z : Nat → Int32} (C : Fx p s m args meth c cd_FW_addHead 6 R_FW lw_g (some .boolean)) (hK : va_K (dC, dI) vwCl [(cB, .byte), (cI, .int), (cJ, .long)] s) (hA : ∀ q, s.heap.size ≤ q → A q) (x1 : Int32) (x3 : Int32) (x5 : Int32) (t0 : Int32) (gn : Int32) (tn : Int32) (tf : Nat → Int32)  (hf : j_FW_addHead_55 N x1 x3 x5 t0 gn tn tf  = some (r_z, tn_z, tf_z)) (hP : va_P (dC, dI) vwCl (wd_FW_addHead fw g t ta bw pk ga cB cI cJ gn tn tf) H) (hD : va_D A (wd_FW_addHead fw g t ta bw pk ga cB cI cJ gn tn tf)) (hS : va_S A s.heap H locs) (hl : lv_has ls 6 [(0, .ref fw), (1, .int x1), (3, .int x3), (5, .int x5)]) : W p l e rm_FW_addHead s m args below meth c H locs 0 0 (MQ below (sQi (dC, dI) vwCl [(cB, .byte), (cI, .int), (cJ, .long)] A r_z (wd_FW_addHead fw g t ta bw pk ga cB cI cJ gn tn_z tf_z)) args s 0 0 A) (F0 m 55 ls [.int t0]) := by
  obtain ⟨hx, hb, hml, hown, hts, hr, hlocks, hZ⟩ := id C
  unfold j_FW_addHead_55 at hf
  refine lv_istore (lv' := [(4, .int t0), (0, .ref fw), (1, .int x1), (3, .int x3), (5, .int x5)]) hx hb d_FW_addHead_55 hl (by decide) rfl (fun ls hl => ?_)
  refine lv_iload_n hx hb d_FW_addHead_57 rfl (lv_at hl 2 rfl) ?_
  refine lv_bipush (v := 8) hx hb d_FW_addHead_58 (by decide) ?_
  refine lv_iand hx hb d_FW_addHead_60 ?_
  refine lv_if_eq (tgt := 104) hx hb d_FW_addHead_61 (by decide) (fun c_61 => ?_) (fun c_61 => ?_)
  · have hf := br_pos c_61 hf
    exact k_FW_addHead_104 C hK hA x1 x3 t0 x5 gn tn tf  hf hP hD hS (lv_sub hl [1, 2, 3, 0, 4] rfl)
  · have hf := br_neg c_61 hf
    refine lv_iload hx hb d_FW_addHead_64 (lv_at hl 0 rfl) ?_
    refine lv_if_eq (tgt := 101) hx hb d_FW_addHead_66 (by decide) (fun c_66 => ?_) (fun c_66 => ?_)
    · have hf := br_pos c_66 hf
      exact k_FW_addHead_101 C hK hA x1 x3 x5 gn tn tf  hf hP hD hS (lv_sub hl [1, 2, 3, 4] rfl)
    · have hf := br_neg c_66 hf
      refine lv_aload_n hx hb d_FW_addHead_69 rfl (lv_at hl 1 rfl) ?_
      refine va_get (D := (dC, dI)) (ci := 4) (v := .ref t) (C := R_FW) (T := T_FW) (N := 4) hx hb hts w_166 hown hK hP 0 rfl rfl 1 (by decide) (hts _ w_167) (fun _ h9 => h9) rfl d_FW_addHead_70 ?_
      refine lv_aload_n hx hb d_FW_addHead_73 rfl (lv_at hl 1 rfl) ?_
      refine va_get (D := (dC, dI)) (ci := 4) (v := .ref g) (C := R_FW) (T := T_FW) (N := 4) hx hb hts w_166 hown hK hP 0 rfl rfl 0 (by decide) (hts _ w_178) (fun _ h9 => h9) rfl d_FW_addHead_74 ?_
      obtain ⟨r77, hc77, hf⟩ := bd1_some hf
      refine s_Vi (As := []) (rest := [.ref t]) (wr := [(fw, .inr (4, [.ref g, .ref t, .ref bw, .ref pk])), (t, .inr (1, [.ref ta, .int tn])), (ta, .inl (cB, 8000, .inl tf))]) (ws' := wd_FW_addHead fw g t ta bw pk ga cB cI cJ gn tn tf) C.call (c_Row_count l dC dI cB cI cJ g ga  gn  hc77) (cwV 0 hts (gd_V w_173 w_10 w_11 w_12 w_13) rfl rfl rfl ⟨rfl, hd_Row_count⟩ ⟨Nat.le_of_ble_eq_true rfl, Nat.le_of_ble_eq_true rfl⟩) rfl hl.1 rfl (Nat.le_of_ble_eq_true rfl) d_FW_addHead_77 ⟨Nat.le_of_ble_eq_true rfl, Nat.le_of_ble_eq_true rfl⟩ hZ hK hP hD hS hA 1 1 rfl rfl [1] [0, 2, 3] [0, 3, 1, 2] rfl rfl rfl rfl (by decide) rfl rfl (fun H locs hP hD hS => ?_)
      obtain ⟨r80, tn_80, tf_80, hc80, hf⟩ := bd3_some hf
      refine s_Vi (As := [.int r77]) (rest := []) (wr := [(fw, .inr (4, [.ref g, .ref t, .ref bw, .ref pk])), (g, .inr (1, [.ref ga, .int gn]))]) (ws' := wd_FW_addHead fw g t ta bw pk ga cB cI cJ gn tn_80 tf_80) C.call (c_Row_addWord l dC dI cB cI cJ t ta 8000 tn tf r77 hc80) (cwV 1 hts (gd_V w_169 w_170 w_171 w_12 w_172) rfl rfl rfl ⟨rfl, hd_Row_addWord⟩ ⟨Nat.le_of_ble_eq_true rfl, Nat.le_of_ble_eq_true rfl⟩) rfl hl.1 rfl (Nat.le_of_ble_eq_true rfl) d_FW_addHead_80 ⟨Nat.le_of_ble_eq_true rfl, Nat.le_of_ble_eq_true rfl⟩ hZ hK hP hD hS hA 1 2 rfl rfl [2, 3] [0, 1] [0, 1, 2, 3] rfl rfl rfl rfl (by decide) rfl rfl (fun H locs hP hD hS => ?_)
      refine lv_if_eq (tgt := 101) hx hb d_FW_addHead_83 (by decide) (fun c_83 => ?_) (fun c_83 => ?_)
      · have hf := br_pos c_83 hf
        exact k_FW_addHead_101 C hK hA x1 x3 x5 gn tn_80 tf_80  hf hP hD hS (lv_sub hl [1, 2, 3, 4] rfl)
      · have hf := br_neg c_83 hf
        refine lv_aload_n hx hb d_FW_addHead_86 rfl (lv_at hl 1 rfl) ?_
        refine va_get (D := (dC, dI)) (ci := 4) (v := .ref t) (C := R_FW) (T := T_FW) (N := 4) hx hb hts w_166 hown hK hP 0 rfl rfl 1 (by decide) (hts _ w_167) (fun _ h9 => h9) rfl d_FW_addHead_87 ?_
        refine lv_iconst (v := 0) hx hb d_FW_addHead_90 (by decide) ?_
        obtain ⟨r91, tn_91, tf_91, hc91, hf⟩ := bd3_some hf
        refine s_Vi (As := [.int (0 : Int32)]) (rest := []) (wr := [(fw, .inr (4, [.ref g, .ref t, .ref bw, .ref pk])), (g, .inr (1, [.ref ga, .int gn]))]) (ws' := wd_FW_addHead fw g t ta bw pk ga cB cI cJ gn tn_91 tf_91) C.call (c_Row_addWord l dC dI cB cI cJ t ta 8000 tn_80 tf_80 (0 : Int32) hc91) (cwV 1 hts (gd_V w_169 w_170 w_171 w_12 w_172) rfl rfl rfl ⟨rfl, hd_Row_addWord⟩ ⟨Nat.le_of_ble_eq_true rfl, Nat.le_of_ble_eq_true rfl⟩) rfl hl.1 rfl (Nat.le_of_ble_eq_true rfl) d_FW_addHead_91 ⟨Nat.le_of_ble_eq_true rfl, Nat.le_of_ble_eq_true rfl⟩ hZ hK hP hD hS hA 1 2 rfl rfl [2, 3] [0, 1] [0, 1, 2, 3] rfl rfl rfl rfl (by decide) rfl rfl (fun H locs hP hD hS => ?_)
        refine lv_if_eq (tgt := 101) hx hb d_FW_addHead_94 (by decide) (fun c_94 => ?_) (fun c_94 => ?_)
        · have hf := br_pos c_94 hf
          exact k_FW_addHead_101 C hK hA x1 x3 x5 gn tn_91 tf_91  hf hP hD hS (lv_sub hl [1, 2, 3, 4] rfl)
        · have hf := br_neg c_94 hf
          refine lv_iconst (v := 1) hx hb d_FW_addHead_97 (by decide) ?_
          refine lv_goto (tgt := 102) hx hb d_FW_addHead_98 (by decide) ?_
          exact k_FW_addHead_102 C hK hA x1 x3 x5 (1 : Int32) gn tn_91 tf_91  hf hP hD hS (lv_sub hl [1, 2, 3, 4] rfl)
noncomputable def j_FW_addHead_54 (N : Nat) (x1 : Int32) (x3 : Int32) (x5 : Int32) (gn : Int32) (tn : Int32) (tf : Nat → Int32)  : Option (Int32 × Int32 × (Nat → Int32)) :=
  (j_FW_addHead_55 N x1 x3 x5 (0 : Int32) gn tn tf )
set_option maxHeartbeats 4000000 in
set_option maxRecDepth 100000 in
theorem k_FW_addHead_54 {r_z : Int32} {tn_z : Int32} {tf_z : Nat → Int32} (C : Fx p s m args meth c cd_FW_addHead 6 R_FW lw_g (some .boolean)) (hK : va_K (dC, dI) vwCl [(cB, .byte), (cI, .int), (cJ, .long)] s) (hA : ∀ q, s.heap.size ≤ q → A q) (x1 : Int32) (x3 : Int32) (x5 : Int32) (gn : Int32) (tn : Int32) (tf : Nat → Int32)  (hf : j_FW_addHead_54 N x1 x3 x5 gn tn tf  = some (r_z, tn_z, tf_z)) (hP : va_P (dC, dI) vwCl (wd_FW_addHead fw g t ta bw pk ga cB cI cJ gn tn tf) H) (hD : va_D A (wd_FW_addHead fw g t ta bw pk ga cB cI cJ gn tn tf)) (hS : va_S A s.heap H locs) (hl : lv_has ls 6 [(0, .ref fw), (1, .int x1), (3, .int x3), (5, .int x5)]) : W p l e rm_FW_addHead s m args below meth c H locs 0 0 (MQ below (sQi (dC, dI) vwCl [(cB, .byte), (cI, .int), (cJ, .long)] A r_z (wd_FW_addHead fw g t ta bw pk ga cB cI cJ gn tn_z tf_z)) args s 0 0 A) (F0 m 54 ls []) := by
  obtain ⟨hx, hb, hml, hown, hts, hr, hlocks, hZ⟩ := id C
  unfold j_FW_addHead_54 at hf
  refine lv_iconst (v := 0) hx hb d_FW_addHead_54 (by decide) ?_
  exact k_FW_addHead_55 C hK hA x1 x3 x5 (0 : Int32) gn tn tf  hf hP hD hS (lv_sub hl [0, 1, 2, 3] rfl)
noncomputable def j_FW_addHead_0 (N : Nat) (x1 : Int32) (x2 : Int32) (x3 : Int32) (gn : Int32) (tn : Int32) (tf : Nat → Int32)  : Option (Int32 × Int32 × (Nat → Int32)) :=
  bd3 (f_Row_addWord 8000 (407708164 : Int32) tn tf) (fun r6 tn_6 tf_6 => bd1 (f_Row_count tn_6) (fun r15 => (if r6 = 0 then (j_FW_addHead_54 N x1 x3 r15 gn tn_6 tf_6 ) else bd3 (f_Row_add 8000 x1 tn_6 tf_6) (fun r30 tn_30 tf_30 => (if r30 = 0 then (j_FW_addHead_54 N x1 x3 r15 gn tn_30 tf_30 ) else bd3 (f_Row_add 8000 ((16 : Int32) * x2) tn_30 tf_30) (fun r44 tn_44 tf_44 => (if r44 = 0 then (j_FW_addHead_54 N x1 x3 r15 gn tn_44 tf_44 ) else (j_FW_addHead_55 N x1 x3 r15 (1 : Int32) gn tn_44 tf_44 ))))))))
set_option maxHeartbeats 4000000 in
set_option maxRecDepth 100000 in
theorem k_FW_addHead_0 {r_z : Int32} {tn_z : Int32} {tf_z : Nat → Int32} (C : Fx p s m args meth c cd_FW_addHead 6 R_FW lw_g (some .boolean)) (hK : va_K (dC, dI) vwCl [(cB, .byte), (cI, .int), (cJ, .long)] s) (hA : ∀ q, s.heap.size ≤ q → A q) (x1 : Int32) (x2 : Int32) (x3 : Int32) (gn : Int32) (tn : Int32) (tf : Nat → Int32)  (hf : j_FW_addHead_0 N x1 x2 x3 gn tn tf  = some (r_z, tn_z, tf_z)) (hP : va_P (dC, dI) vwCl (wd_FW_addHead fw g t ta bw pk ga cB cI cJ gn tn tf) H) (hD : va_D A (wd_FW_addHead fw g t ta bw pk ga cB cI cJ gn tn tf)) (hS : va_S A s.heap H locs) (hl : lv_has ls 6 [(0, .ref fw), (1, .int x1), (2, .int x2), (3, .int x3)]) : W p l e rm_FW_addHead s m args below meth c H locs 0 0 (MQ below (sQi (dC, dI) vwCl [(cB, .byte), (cI, .int), (cJ, .long)] A r_z (wd_FW_addHead fw g t ta bw pk ga cB cI cJ gn tn_z tf_z)) args s 0 0 A) (F0 m 0 ls []) := by
  obtain ⟨hx, hb, hml, hown, hts, hr, hlocks, hZ⟩ := id C
  unfold j_FW_addHead_0 at hf
  refine lv_aload_n hx hb d_FW_addHead_0 rfl (lv_at hl 0 rfl) ?_
  refine va_get (D := (dC, dI)) (ci := 4) (v := .ref t) (C := R_FW) (T := T_FW) (N := 4) hx hb hts w_166 hown hK hP 0 rfl rfl 1 (by decide) (hts _ w_167) (fun _ h9 => h9) rfl d_FW_addHead_1 ?_
  refine lv_ldc (v := 407708164) hx hb hown (hts _ w_168) d_FW_addHead_4 ?_
  obtain ⟨r6, tn_6, tf_6, hc6, hf⟩ := bd3_some hf
  refine s_Vi (As := [.int (407708164 : Int32)]) (rest := []) (wr := [(fw, .inr (4, [.ref g, .ref t, .ref bw, .ref pk])), (g, .inr (1, [.ref ga, .int gn]))]) (ws' := wd_FW_addHead fw g t ta bw pk ga cB cI cJ gn tn_6 tf_6) C.call (c_Row_addWord l dC dI cB cI cJ t ta 8000 tn tf (407708164 : Int32) hc6) (cwV 1 hts (gd_V w_169 w_170 w_171 w_12 w_172) rfl rfl rfl ⟨rfl, hd_Row_addWord⟩ ⟨Nat.le_of_ble_eq_true rfl, Nat.le_of_ble_eq_true rfl⟩) rfl hl.1 rfl (Nat.le_of_ble_eq_true rfl) d_FW_addHead_6 ⟨Nat.le_of_ble_eq_true rfl, Nat.le_of_ble_eq_true rfl⟩ hZ hK hP hD hS hA 1 2 rfl rfl [2, 3] [0, 1] [0, 1, 2, 3] rfl rfl rfl rfl (by decide) rfl rfl (fun H locs hP hD hS => ?_)
  refine lv_istore (lv' := [(4, .int r6), (0, .ref fw), (1, .int x1), (2, .int x2), (3, .int x3)]) hx hb d_FW_addHead_9 hl (by decide) rfl (fun ls hl => ?_)
  refine lv_aload_n hx hb d_FW_addHead_11 rfl (lv_at hl 1 rfl) ?_
  refine va_get (D := (dC, dI)) (ci := 4) (v := .ref t) (C := R_FW) (T := T_FW) (N := 4) hx hb hts w_166 hown hK hP 0 rfl rfl 1 (by decide) (hts _ w_167) (fun _ h9 => h9) rfl d_FW_addHead_12 ?_
  obtain ⟨r15, hc15, hf⟩ := bd1_some hf
  refine s_Vi (As := []) (rest := []) (wr := [(fw, .inr (4, [.ref g, .ref t, .ref bw, .ref pk])), (g, .inr (1, [.ref ga, .int gn])), (ta, .inl (cB, 8000, .inl tf_6))]) (ws' := wd_FW_addHead fw g t ta bw pk ga cB cI cJ gn tn_6 tf_6) C.call (c_Row_count l dC dI cB cI cJ t ta  tn_6  hc15) (cwV 0 hts (gd_V w_173 w_10 w_11 w_12 w_13) rfl rfl rfl ⟨rfl, hd_Row_count⟩ ⟨Nat.le_of_ble_eq_true rfl, Nat.le_of_ble_eq_true rfl⟩) rfl hl.1 rfl (Nat.le_of_ble_eq_true rfl) d_FW_addHead_15 ⟨Nat.le_of_ble_eq_true rfl, Nat.le_of_ble_eq_true rfl⟩ hZ hK hP hD hS hA 1 2 rfl rfl [2] [0, 1, 3] [0, 1, 3, 2] rfl rfl rfl rfl (by decide) rfl rfl (fun H locs hP hD hS => ?_)
  refine lv_istore (lv' := [(5, .int r15), (4, .int r6), (0, .ref fw), (1, .int x1), (2, .int x2), (3, .int x3)]) hx hb d_FW_addHead_18 hl (by decide) rfl (fun ls hl => ?_)
  refine lv_iload hx hb d_FW_addHead_20 (lv_at hl 1 rfl) ?_
  refine lv_if_eq (tgt := 54) hx hb d_FW_addHead_22 (by decide) (fun c_22 => ?_) (fun c_22 => ?_)
  · have hf := br_pos c_22 hf
    exact k_FW_addHead_54 C hK hA x1 x3 r15 gn tn_6 tf_6  hf hP hD hS (lv_sub hl [2, 3, 5, 0] rfl)
  · have hf := br_neg c_22 hf
    refine lv_aload_n hx hb d_FW_addHead_25 rfl (lv_at hl 2 rfl) ?_
    refine va_get (D := (dC, dI)) (ci := 4) (v := .ref t) (C := R_FW) (T := T_FW) (N := 4) hx hb hts w_166 hown hK hP 0 rfl rfl 1 (by decide) (hts _ w_167) (fun _ h9 => h9) rfl d_FW_addHead_26 ?_
    refine lv_iload_n hx hb d_FW_addHead_29 rfl (lv_at hl 3 rfl) ?_
    obtain ⟨r30, tn_30, tf_30, hc30, hf⟩ := bd3_some hf
    refine s_Vi (As := [.int x1]) (rest := []) (wr := [(fw, .inr (4, [.ref g, .ref t, .ref bw, .ref pk])), (g, .inr (1, [.ref ga, .int gn]))]) (ws' := wd_FW_addHead fw g t ta bw pk ga cB cI cJ gn tn_30 tf_30) C.call (c_Row_add l dC dI cB cI cJ t ta 8000 tn_6 tf_6 x1 hc30) (cwV 1 hts (gd_V w_177 w_41 w_42 w_12 w_43) rfl rfl rfl ⟨rfl, hd_Row_add⟩ ⟨Nat.le_of_ble_eq_true rfl, Nat.le_of_ble_eq_true rfl⟩) rfl hl.1 rfl (Nat.le_of_ble_eq_true rfl) d_FW_addHead_30 ⟨Nat.le_of_ble_eq_true rfl, Nat.le_of_ble_eq_true rfl⟩ hZ hK hP hD hS hA 1 2 rfl rfl [2, 3] [0, 1] [0, 1, 2, 3] rfl rfl rfl rfl (by decide) rfl rfl (fun H locs hP hD hS => ?_)
    refine lv_if_eq (tgt := 54) hx hb d_FW_addHead_33 (by decide) (fun c_33 => ?_) (fun c_33 => ?_)
    · have hf := br_pos c_33 hf
      exact k_FW_addHead_54 C hK hA x1 x3 r15 gn tn_30 tf_30  hf hP hD hS (lv_sub hl [2, 3, 5, 0] rfl)
    · have hf := br_neg c_33 hf
      refine lv_aload_n hx hb d_FW_addHead_36 rfl (lv_at hl 2 rfl) ?_
      refine va_get (D := (dC, dI)) (ci := 4) (v := .ref t) (C := R_FW) (T := T_FW) (N := 4) hx hb hts w_166 hown hK hP 0 rfl rfl 1 (by decide) (hts _ w_167) (fun _ h9 => h9) rfl d_FW_addHead_37 ?_
      refine lv_bipush (v := 16) hx hb d_FW_addHead_40 (by decide) ?_
      refine lv_iload_n hx hb d_FW_addHead_42 rfl (lv_at hl 4 rfl) ?_
      refine lv_imul hx hb d_FW_addHead_43 ?_
      obtain ⟨r44, tn_44, tf_44, hc44, hf⟩ := bd3_some hf
      refine s_Vi (As := [.int ((16 : Int32) * x2)]) (rest := []) (wr := [(fw, .inr (4, [.ref g, .ref t, .ref bw, .ref pk])), (g, .inr (1, [.ref ga, .int gn]))]) (ws' := wd_FW_addHead fw g t ta bw pk ga cB cI cJ gn tn_44 tf_44) C.call (c_Row_add l dC dI cB cI cJ t ta 8000 tn_30 tf_30 ((16 : Int32) * x2) hc44) (cwV 1 hts (gd_V w_177 w_41 w_42 w_12 w_43) rfl rfl rfl ⟨rfl, hd_Row_add⟩ ⟨Nat.le_of_ble_eq_true rfl, Nat.le_of_ble_eq_true rfl⟩) rfl hl.1 rfl (Nat.le_of_ble_eq_true rfl) d_FW_addHead_44 ⟨Nat.le_of_ble_eq_true rfl, Nat.le_of_ble_eq_true rfl⟩ hZ hK hP hD hS hA 1 2 rfl rfl [2, 3] [0, 1] [0, 1, 2, 3] rfl rfl rfl rfl (by decide) rfl rfl (fun H locs hP hD hS => ?_)
      refine lv_if_eq (tgt := 54) hx hb d_FW_addHead_47 (by decide) (fun c_47 => ?_) (fun c_47 => ?_)
      · have hf := br_pos c_47 hf
        exact k_FW_addHead_54 C hK hA x1 x3 r15 gn tn_44 tf_44  hf hP hD hS (lv_sub hl [2, 3, 5, 0] rfl)
      · have hf := br_neg c_47 hf
        refine lv_iconst (v := 1) hx hb d_FW_addHead_50 (by decide) ?_
        refine lv_goto (tgt := 55) hx hb d_FW_addHead_51 (by decide) ?_
        exact k_FW_addHead_55 C hK hA x1 x3 r15 (1 : Int32) gn tn_44 tf_44  hf hP hD hS (lv_sub hl [2, 3, 5, 0] rfl)
end
noncomputable abbrev f_FW_addHead (N : Nat) (x1 : Int32) (x2 : Int32) (x3 : Int32) (gn : Int32) (tn : Int32) (tf : Nat → Int32) : Option (Int32 × Int32 × (Nat → Int32)) := j_FW_addHead_0 N x1 x2 x3 gn tn tf
set_option maxRecDepth 100000 in
theorem c_FW_addHead {N : Nat} (l : Launch) (dC : Nat → ClassId) (dI : Nat → Nat → Nat) (cB cI cJ : ClassId) (fw g t ta bw pk ga : Nat) (gn : Int32) (tn : Int32) (tf : Nat → Int32) (x1 : Int32) (x2 : Int32) (x3 : Int32) {r_z : Int32} {tn_z : Int32} {tf_z : Nat → Int32} (hf : f_FW_addHead N x1 x2 x3 gn tn tf = some (r_z, tn_z, tf_z)) : MetI l y_FW_addHead ws_FW_addHead rm_FW_addHead (dC, dI) vwCl [(cB, .byte), (cI, .int), (cJ, .long)] [.ref fw, .int x1, .int x2, .int x3] (wd_FW_addHead fw g t ta bw pk ga cB cI cJ gn tn tf) r_z (wd_FW_addHead fw g t ta bw pk ga cB cI cJ gn tn_z tf_z) 0 0 :=
  s_ofi (bytes := cd_FW_addHead) (maxL := 6) (ret := (some .boolean)) (by decide) rfl (Nat.le_of_ble_eq_true rfl) (fun p e s m below meth c A ls C hK hA hP hD hS hl => k_FW_addHead_0 C hK hA x1 x2 x3 gn tn tf hf hP hD hS (lv_sub hl [0, 1, 2, 3] rfl))

abbrev wd_FW_addRow (fw g ga t ta bw mt d da la ea hs pk pka hsa : Nat) (cB cI cJ : ClassId) (gn : Int32) (gf : Nat → Int32) (tn : Int32) (tf : Nat → Int32) (mc : Int32) (ms : Int32) (ml : Int32) (dn : Int32) (df : Nat → Int32) (laf : Nat → Int32) (eaf : Nat → Int32) (hsn : Int32) (pkn : Int32) (pkf : Nat → Int32) : va_W := [(fw, .inr (4, [.ref g, .ref t, .ref bw, .ref pk])), (g, .inr (1, [.ref ga, .int gn])), (ga, .inl (cB, 8000, .inl gf)), (t, .inr (1, [.ref ta, .int tn])), (ta, .inl (cB, 8000, .inl tf)), (bw, .inr (2, [.ref hs, .ref mt, .ref d])), (mt, .inr (3, [.ref d, .ref la, .ref ea, .int mc, .int ms, .int ml])), (d, .inr (1, [.ref da, .int dn])), (da, .inl (cB, 16000, .inl df)), (la, .inl (cI, 4096, .inl laf)), (ea, .inl (cI, 16000, .inl eaf)), (hs, .inr (1, [.ref hsa, .int hsn])), (pk, .inr (1, [.ref pka, .int pkn])), (pka, .inl (cB, 8000, .inl pkf))]
abbrev rm_FW_addRow : Room := { frames := 5, cells := 0, slots := 0, locals := 121 }
section
variable {p : Program} {l : Launch} {e : Env} {s : State} {m : MethodId} {args : Array Value} {below : List Frame} {meth : Method} {c : Code} {dC : Nat → ClassId} {dI : Nat → Nat → Nat} {A : Nat → Prop} {cB cI cJ : ClassId} {H : Heap} {locs : List Loc} {ls : Array Slot} {N : Nat} {fw g ga t ta bw mt d da la ea hs pk pka hsa : Nat}
noncomputable def j_FW_addRow_162 (N : Nat) (x3 : Int32) (x8 : Int32) (t0 : Int32) (tn : Int32) (tf : Nat → Int32) (mc : Int32) (ms : Int32) (ml : Int32) (dn : Int32) (df : Nat → Int32) (laf : Nat → Int32) (eaf : Nat → Int32) (pkn : Int32) (pkf : Nat → Int32)  : Option (Int32 × Int32 × (Nat → Int32) × Int32 × Int32 × Int32 × Int32 × (Nat → Int32) × (Nat → Int32) × (Nat → Int32) × Int32 × (Nat → Int32)) :=
  (if (x3 &&& (16 : Int32)) = 0 then as_ (narrow .boolean (.int t0) = .int t0) ((some (t0, tn, tf, mc, ms, ml, dn, df, laf, eaf, pkn, pkf) : Option (Int32 × Int32 × (Nat → Int32) × Int32 × Int32 × Int32 × Int32 × (Nat → Int32) × (Nat → Int32) × (Nat → Int32) × Int32 × (Nat → Int32)))) else (if t0 = 0 then (some ((0 : Int32), tn, tf, mc, ms, ml, dn, df, laf, eaf, pkn, pkf) : Option (Int32 × Int32 × (Nat → Int32) × Int32 × Int32 × Int32 × Int32 × (Nat → Int32) × (Nat → Int32) × (Nat → Int32) × Int32 × (Nat → Int32))) else bd1 (f_Row_count tn) (fun r190 => bd1 (f_Sum_of N 8000 x8 r190 tn tf) (fun r193 => bd3 (f_Row_addWord 8000 r193 tn tf) (fun r196 tn_196 tf_196 => (if r196 = 0 then (some ((0 : Int32), tn_196, tf_196, mc, ms, ml, dn, df, laf, eaf, pkn, pkf) : Option (Int32 × Int32 × (Nat → Int32) × Int32 × Int32 × Int32 × Int32 × (Nat → Int32) × (Nat → Int32) × (Nat → Int32) × Int32 × (Nat → Int32))) else (some ((1 : Int32), tn_196, tf_196, mc, ms, ml, dn, df, laf, eaf, pkn, pkf) : Option (Int32 × Int32 × (Nat → Int32) × Int32 × Int32 × Int32 × Int32 × (Nat → Int32) × (Nat → Int32) × (Nat → Int32) × Int32 × (Nat → Int32)))))))))
set_option maxHeartbeats 4000000 in
set_option maxRecDepth 100000 in
theorem k_FW_addRow_162 {r_z : Int32} {tn_z : Int32} {tf_z : Nat → Int32} {mc_z : Int32} {ms_z : Int32} {ml_z : Int32} {dn_z : Int32} {df_z : Nat → Int32} {laf_z : Nat → Int32} {eaf_z : Nat → Int32} {pkn_z : Int32} {pkf_z : Nat → Int32} (C : Fx p s m args meth c cd_FW_addRow 9 R_FW lw_g (some .boolean)) (hK : va_K (dC, dI) vwCl [(cB, .byte), (cI, .int), (cJ, .long)] s) (hA : ∀ q, s.heap.size ≤ q → A q) (x3 : Int32) (x8 : Int32) (t0 : Int32) (gn : Int32) (gf : Nat → Int32) (tn : Int32) (tf : Nat → Int32) (mc : Int32) (ms : Int32) (ml : Int32) (dn : Int32) (df : Nat → Int32) (laf : Nat → Int32) (eaf : Nat → Int32) (hsn : Int32) (pkn : Int32) (pkf : Nat → Int32)  (hf : j_FW_addRow_162 N x3 x8 t0 tn tf mc ms ml dn df laf eaf pkn pkf  = some (r_z, tn_z, tf_z, mc_z, ms_z, ml_z, dn_z, df_z, laf_z, eaf_z, pkn_z, pkf_z)) (hP : va_P (dC, dI) vwCl (wd_FW_addRow fw g ga t ta bw mt d da la ea hs pk pka hsa cB cI cJ gn gf tn tf mc ms ml dn df laf eaf hsn pkn pkf) H) (hD : va_D A (wd_FW_addRow fw g ga t ta bw mt d da la ea hs pk pka hsa cB cI cJ gn gf tn tf mc ms ml dn df laf eaf hsn pkn pkf)) (hS : va_S A s.heap H locs) (hl : lv_has ls 9 [(0, .ref fw), (3, .int x3), (8, .int x8)]) : W p l e rm_FW_addRow s m args below meth c H locs 0 0 (MQ below (sQi (dC, dI) vwCl [(cB, .byte), (cI, .int), (cJ, .long)] A r_z (wd_FW_addRow fw g ga t ta bw mt d da la ea hs pk pka hsa cB cI cJ gn gf tn_z tf_z mc_z ms_z ml_z dn_z df_z laf_z eaf_z hsn pkn_z pkf_z)) args s 0 0 A) (F0 m 162 ls [.int t0]) := by
  obtain ⟨hx, hb, hml, hown, hts, hr, hlocks, hZ⟩ := id C
  unfold j_FW_addRow_162 at hf
  refine lv_istore (lv' := [(7, .int t0), (0, .ref fw), (3, .int x3), (8, .int x8)]) hx hb d_FW_addRow_162 hl (by decide) rfl (fun ls hl => ?_)
  refine lv_iload_n hx hb d_FW_addRow_164 rfl (lv_at hl 2 rfl) ?_
  refine lv_bipush (v := 16) hx hb d_FW_addRow_165 (by decide) ?_
  refine lv_iand hx hb d_FW_addRow_167 ?_
  refine lv_if_eq (tgt := 209) hx hb d_FW_addRow_168 (by decide) (fun c_168 => ?_) (fun c_168 => ?_)
  · have hf := br_pos c_168 hf
    refine lv_iload hx hb d_FW_addRow_209 (lv_at hl 0 rfl) ?_
    obtain ⟨hnb, hf⟩ := as_some hf
    cases hf
    exact s_zret hx hb hr hnb hlocks hP hK hD hS d_FW_addRow_211
  · have hf := br_neg c_168 hf
    refine lv_iload hx hb d_FW_addRow_171 (lv_at hl 0 rfl) ?_
    refine lv_if_eq (tgt := 206) hx hb d_FW_addRow_173 (by decide) (fun c_173 => ?_) (fun c_173 => ?_)
    · have hf := br_pos c_173 hf
      refine lv_iconst (v := 0) hx hb d_FW_addRow_206 (by decide) ?_
      refine lv_istore (lv' := [(7, .int (0 : Int32)), (0, .ref fw), (3, .int x3), (8, .int x8)]) hx hb d_FW_addRow_207 hl (by decide) rfl (fun ls hl => ?_)
      refine lv_iload hx hb d_FW_addRow_209 (lv_at hl 0 rfl) ?_
      cases hf
      exact s_zret hx hb hr (by decide) hlocks hP hK hD hS d_FW_addRow_211
    · have hf := br_neg c_173 hf
      refine lv_aload_n hx hb d_FW_addRow_176 rfl (lv_at hl 1 rfl) ?_
      refine va_get (D := (dC, dI)) (ci := 4) (v := .ref t) (C := R_FW) (T := T_FW) (N := 4) hx hb hts w_166 hown hK hP 0 rfl rfl 1 (by decide) (hts _ w_167) (fun _ h9 => h9) rfl d_FW_addRow_177 ?_
      refine lv_aload_n hx hb d_FW_addRow_180 rfl (lv_at hl 1 rfl) ?_
      refine va_get (D := (dC, dI)) (ci := 4) (v := .ref t) (C := R_FW) (T := T_FW) (N := 4) hx hb hts w_166 hown hK hP 0 rfl rfl 1 (by decide) (hts _ w_167) (fun _ h9 => h9) rfl d_FW_addRow_181 ?_
      refine lv_iload hx hb d_FW_addRow_184 (lv_at hl 3 rfl) ?_
      refine lv_aload_n hx hb d_FW_addRow_186 rfl (lv_at hl 1 rfl) ?_
      refine va_get (D := (dC, dI)) (ci := 4) (v := .ref t) (C := R_FW) (T := T_FW) (N := 4) hx hb hts w_166 hown hK hP 0 rfl rfl 1 (by decide) (hts _ w_167) (fun _ h9 => h9) rfl d_FW_addRow_187 ?_
      obtain ⟨r190, hc190, hf⟩ := bd1_some hf
      refine s_Vi (As := []) (rest := [.int x8, .ref t, .ref t]) (wr := [(fw, .inr (4, [.ref g, .ref t, .ref bw, .ref pk])), (g, .inr (1, [.ref ga, .int gn])), (ga, .inl (cB, 8000, .inl gf)), (ta, .inl (cB, 8000, .inl tf)), (bw, .inr (2, [.ref hs, .ref mt, .ref d])), (mt, .inr (3, [.ref d, .ref la, .ref ea, .int mc, .int ms, .int ml])), (d, .inr (1, [.ref da, .int dn])), (da, .inl (cB, 16000, .inl df)), (la, .inl (cI, 4096, .inl laf)), (ea, .inl (cI, 16000, .inl eaf)), (hs, .inr (1, [.ref hsa, .int hsn])), (pk, .inr (1, [.ref pka, .int pkn])), (pka, .inl (cB, 8000, .inl pkf))]) (ws' := wd_FW_addRow fw g ga t ta bw mt d da la ea hs pk pka hsa cB cI cJ gn gf tn tf mc ms ml dn df laf eaf hsn pkn pkf) C.call (c_Row_count l dC dI cB cI cJ t ta  tn  hc190) (cwV 0 hts (gd_V w_173 w_10 w_11 w_12 w_13) rfl rfl rfl ⟨rfl, hd_Row_count⟩ ⟨Nat.le_of_ble_eq_true rfl, Nat.le_of_ble_eq_true rfl⟩) rfl hl.1 rfl (Nat.le_of_ble_eq_true rfl) d_FW_addRow_190 ⟨Nat.le_of_ble_eq_true rfl, Nat.le_of_ble_eq_true rfl⟩ hZ hK hP hD hS hA 1 3 rfl rfl [3] [0, 1, 2, 4, 5, 6, 7, 8, 9, 10, 11, 12, 13] [0, 1, 2, 13, 3, 4, 5, 6, 7, 8, 9, 10, 11, 12] rfl rfl rfl rfl (by decide) rfl rfl (fun H locs hP hD hS => ?_)
      obtain ⟨r193, hc193, hf⟩ := bd1_some hf
      refine s_Si (As := [.ref t, .int x8, .int r190]) (rest := [.ref t]) (wr := [(fw, .inr (4, [.ref g, .ref t, .ref bw, .ref pk])), (g, .inr (1, [.ref ga, .int gn])), (ga, .inl (cB, 8000, .inl gf)), (bw, .inr (2, [.ref hs, .ref mt, .ref d])), (mt, .inr (3, [.ref d, .ref la, .ref ea, .int mc, .int ms, .int ml])), (d, .inr (1, [.ref da, .int dn])), (da, .inl (cB, 16000, .inl df)), (la, .inl (cI, 4096, .inl laf)), (ea, .inl (cI, 16000, .inl eaf)), (hs, .inr (1, [.ref hsa, .int hsn])), (pk, .inr (1, [.ref pka, .int pkn])), (pka, .inl (cB, 8000, .inl pkf))]) (ws' := wd_FW_addRow fw g ga t ta bw mt d da la ea hs pk pka hsa cB cI cJ gn gf tn tf mc ms ml dn df laf eaf hsn pkn pkf) C.call (c_Sum_of l dC dI cB cI cJ t ta 8000 tn tf x8 r190 hc193) (va_cwS 3 hts (gd_S w_174 w_175 w_149 w_176) rfl rfl rfl hd_Sum_of ⟨Nat.le_of_ble_eq_true rfl, Nat.le_of_ble_eq_true rfl⟩) rfl hl.1 rfl (Nat.le_of_ble_eq_true rfl) d_FW_addRow_193 ⟨Nat.le_of_ble_eq_true rfl, Nat.le_of_ble_eq_true rfl⟩ hZ hK hP hD hS hA [3, 4] [0, 1, 2, 5, 6, 7, 8, 9, 10, 11, 12, 13] [0, 1, 2, 12, 13, 3, 4, 5, 6, 7, 8, 9, 10, 11] rfl rfl rfl rfl (by decide) rfl rfl (fun H locs hP hD hS => ?_)
      obtain ⟨r196, tn_196, tf_196, hc196, hf⟩ := bd3_some hf
      refine s_Vi (As := [.int r193]) (rest := []) (wr := [(fw, .inr (4, [.ref g, .ref t, .ref bw, .ref pk])), (g, .inr (1, [.ref ga, .int gn])), (ga, .inl (cB, 8000, .inl gf)), (bw, .inr (2, [.ref hs, .ref mt, .ref d])), (mt, .inr (3, [.ref d, .ref la, .ref ea, .int mc, .int ms, .int ml])), (d, .inr (1, [.ref da, .int dn])), (da, .inl (cB, 16000, .inl df)), (la, .inl (cI, 4096, .inl laf)), (ea, .inl (cI, 16000, .inl eaf)), (hs, .inr (1, [.ref hsa, .int hsn])), (pk, .inr (1, [.ref pka, .int pkn])), (pka, .inl (cB, 8000, .inl pkf))]) (ws' := wd_FW_addRow fw g ga t ta bw mt d da la ea hs pk pka hsa cB cI cJ gn gf tn_196 tf_196 mc ms ml dn df laf eaf hsn pkn pkf) C.call (c_Row_addWord l dC dI cB cI cJ t ta 8000 tn tf r193 hc196) (cwV 1 hts (gd_V w_169 w_170 w_171 w_12 w_172) rfl rfl rfl ⟨rfl, hd_Row_addWord⟩ ⟨Nat.le_of_ble_eq_true rfl, Nat.le_of_ble_eq_true rfl⟩) rfl hl.1 rfl (Nat.le_of_ble_eq_true rfl) d_FW_addRow_196 ⟨Nat.le_of_ble_eq_true rfl, Nat.le_of_ble_eq_true rfl⟩ hZ hK hP hD hS hA 1 3 rfl rfl [3, 4] [0, 1, 2, 5, 6, 7, 8, 9, 10, 11, 12, 13] [0, 1, 2, 12, 13, 3, 4, 5, 6, 7, 8, 9, 10, 11] rfl rfl rfl rfl (by decide) rfl rfl (fun H locs hP hD hS => ?_)
      refine lv_if_eq (tgt := 206) hx hb d_FW_addRow_199 (by decide) (fun c_199 => ?_) (fun c_199 => ?_)
      · have hf := br_pos c_199 hf
        refine lv_iconst (v := 0) hx hb d_FW_addRow_206 (by decide) ?_
        refine lv_istore (lv' := [(7, .int (0 : Int32)), (0, .ref fw), (3, .int x3), (8, .int x8)]) hx hb d_FW_addRow_207 hl (by decide) rfl (fun ls hl => ?_)
        refine lv_iload hx hb d_FW_addRow_209 (lv_at hl 0 rfl) ?_
        cases hf
        exact s_zret hx hb hr (by decide) hlocks hP hK hD hS d_FW_addRow_211
      · have hf := br_neg c_199 hf
        refine lv_iconst (v := 1) hx hb d_FW_addRow_202 (by decide) ?_
        refine lv_goto (tgt := 207) hx hb d_FW_addRow_203 (by decide) ?_
        refine lv_istore (lv' := [(7, .int (1 : Int32)), (0, .ref fw), (3, .int x3), (8, .int x8)]) hx hb d_FW_addRow_207 hl (by decide) rfl (fun ls hl => ?_)
        refine lv_iload hx hb d_FW_addRow_209 (lv_at hl 0 rfl) ?_
        cases hf
        exact s_zret hx hb hr (by decide) hlocks hP hK hD hS d_FW_addRow_211
noncomputable def j_FW_addRow_161 (N : Nat) (x3 : Int32) (x8 : Int32) (tn : Int32) (tf : Nat → Int32) (mc : Int32) (ms : Int32) (ml : Int32) (dn : Int32) (df : Nat → Int32) (laf : Nat → Int32) (eaf : Nat → Int32) (pkn : Int32) (pkf : Nat → Int32)  : Option (Int32 × Int32 × (Nat → Int32) × Int32 × Int32 × Int32 × Int32 × (Nat → Int32) × (Nat → Int32) × (Nat → Int32) × Int32 × (Nat → Int32)) :=
  (j_FW_addRow_162 N x3 x8 (0 : Int32) tn tf mc ms ml dn df laf eaf pkn pkf )
set_option maxHeartbeats 4000000 in
set_option maxRecDepth 100000 in
theorem k_FW_addRow_161 {r_z : Int32} {tn_z : Int32} {tf_z : Nat → Int32} {mc_z : Int32} {ms_z : Int32} {ml_z : Int32} {dn_z : Int32} {df_z : Nat → Int32} {laf_z : Nat → Int32} {eaf_z : Nat → Int32} {pkn_z : Int32} {pkf_z : Nat → Int32} (C : Fx p s m args meth c cd_FW_addRow 9 R_FW lw_g (some .boolean)) (hK : va_K (dC, dI) vwCl [(cB, .byte), (cI, .int), (cJ, .long)] s) (hA : ∀ q, s.heap.size ≤ q → A q) (x3 : Int32) (x8 : Int32) (gn : Int32) (gf : Nat → Int32) (tn : Int32) (tf : Nat → Int32) (mc : Int32) (ms : Int32) (ml : Int32) (dn : Int32) (df : Nat → Int32) (laf : Nat → Int32) (eaf : Nat → Int32) (hsn : Int32) (pkn : Int32) (pkf : Nat → Int32)  (hf : j_FW_addRow_161 N x3 x8 tn tf mc ms ml dn df laf eaf pkn pkf  = some (r_z, tn_z, tf_z, mc_z, ms_z, ml_z, dn_z, df_z, laf_z, eaf_z, pkn_z, pkf_z)) (hP : va_P (dC, dI) vwCl (wd_FW_addRow fw g ga t ta bw mt d da la ea hs pk pka hsa cB cI cJ gn gf tn tf mc ms ml dn df laf eaf hsn pkn pkf) H) (hD : va_D A (wd_FW_addRow fw g ga t ta bw mt d da la ea hs pk pka hsa cB cI cJ gn gf tn tf mc ms ml dn df laf eaf hsn pkn pkf)) (hS : va_S A s.heap H locs) (hl : lv_has ls 9 [(0, .ref fw), (3, .int x3), (8, .int x8)]) : W p l e rm_FW_addRow s m args below meth c H locs 0 0 (MQ below (sQi (dC, dI) vwCl [(cB, .byte), (cI, .int), (cJ, .long)] A r_z (wd_FW_addRow fw g ga t ta bw mt d da la ea hs pk pka hsa cB cI cJ gn gf tn_z tf_z mc_z ms_z ml_z dn_z df_z laf_z eaf_z hsn pkn_z pkf_z)) args s 0 0 A) (F0 m 161 ls []) := by
  obtain ⟨hx, hb, hml, hown, hts, hr, hlocks, hZ⟩ := id C
  unfold j_FW_addRow_161 at hf
  refine lv_iconst (v := 0) hx hb d_FW_addRow_161 (by decide) ?_
  exact k_FW_addRow_162 C hK hA x3 x8 (0 : Int32) gn gf tn tf mc ms ml dn df laf eaf hsn pkn pkf  hf hP hD hS (lv_sub hl [0, 1, 2] rfl)
noncomputable def j_FW_addRow_157 (N : Nat) (x3 : Int32) (x8 : Int32) (tn : Int32) (tf : Nat → Int32) (mc : Int32) (ms : Int32) (ml : Int32) (dn : Int32) (df : Nat → Int32) (laf : Nat → Int32) (eaf : Nat → Int32) (pkn : Int32) (pkf : Nat → Int32)  : Option (Int32 × Int32 × (Nat → Int32) × Int32 × Int32 × Int32 × Int32 × (Nat → Int32) × (Nat → Int32) × (Nat → Int32) × Int32 × (Nat → Int32)) :=
  (j_FW_addRow_162 N x3 x8 (1 : Int32) tn tf mc ms ml dn df laf eaf pkn pkf )
set_option maxHeartbeats 4000000 in
set_option maxRecDepth 100000 in
theorem k_FW_addRow_157 {r_z : Int32} {tn_z : Int32} {tf_z : Nat → Int32} {mc_z : Int32} {ms_z : Int32} {ml_z : Int32} {dn_z : Int32} {df_z : Nat → Int32} {laf_z : Nat → Int32} {eaf_z : Nat → Int32} {pkn_z : Int32} {pkf_z : Nat → Int32} (C : Fx p s m args meth c cd_FW_addRow 9 R_FW lw_g (some .boolean)) (hK : va_K (dC, dI) vwCl [(cB, .byte), (cI, .int), (cJ, .long)] s) (hA : ∀ q, s.heap.size ≤ q → A q) (x3 : Int32) (x8 : Int32) (gn : Int32) (gf : Nat → Int32) (tn : Int32) (tf : Nat → Int32) (mc : Int32) (ms : Int32) (ml : Int32) (dn : Int32) (df : Nat → Int32) (laf : Nat → Int32) (eaf : Nat → Int32) (hsn : Int32) (pkn : Int32) (pkf : Nat → Int32)  (hf : j_FW_addRow_157 N x3 x8 tn tf mc ms ml dn df laf eaf pkn pkf  = some (r_z, tn_z, tf_z, mc_z, ms_z, ml_z, dn_z, df_z, laf_z, eaf_z, pkn_z, pkf_z)) (hP : va_P (dC, dI) vwCl (wd_FW_addRow fw g ga t ta bw mt d da la ea hs pk pka hsa cB cI cJ gn gf tn tf mc ms ml dn df laf eaf hsn pkn pkf) H) (hD : va_D A (wd_FW_addRow fw g ga t ta bw mt d da la ea hs pk pka hsa cB cI cJ gn gf tn tf mc ms ml dn df laf eaf hsn pkn pkf)) (hS : va_S A s.heap H locs) (hl : lv_has ls 9 [(0, .ref fw), (3, .int x3), (8, .int x8)]) : W p l e rm_FW_addRow s m args below meth c H locs 0 0 (MQ below (sQi (dC, dI) vwCl [(cB, .byte), (cI, .int), (cJ, .long)] A r_z (wd_FW_addRow fw g ga t ta bw mt d da la ea hs pk pka hsa cB cI cJ gn gf tn_z tf_z mc_z ms_z ml_z dn_z df_z laf_z eaf_z hsn pkn_z pkf_z)) args s 0 0 A) (F0 m 157 ls []) := by
  obtain ⟨hx, hb, hml, hown, hts, hr, hlocks, hZ⟩ := id C
  unfold j_FW_addRow_157 at hf
  refine lv_iconst (v := 1) hx hb d_FW_addRow_157 (by decide) ?_
  refine lv_goto (tgt := 162) hx hb d_FW_addRow_158 (by decide) ?_
  exact k_FW_addRow_162 C hK hA x3 x8 (1 : Int32) gn gf tn tf mc ms ml dn df laf eaf hsn pkn pkf  hf hP hD hS (lv_sub hl [0, 1, 2] rfl)
noncomputable def j_FW_addRow_92 (N : Nat) (x1 : Int32) (x2 : Int32) (x3 : Int32) (x6 : Int32) (t0 : Int32) (gn : Int32) (gf : Nat → Int32) (tn : Int32) (tf : Nat → Int32) (mc : Int32) (ms : Int32) (ml : Int32) (dn : Int32) (df : Nat → Int32) (laf : Nat → Int32) (eaf : Nat → Int32) (pkn : Int32) (pkf : Nat → Int32)  : Option (Int32 × Int32 × (Nat → Int32) × Int32 × Int32 × Int32 × Int32 × (Nat → Int32) × (Nat → Int32) × (Nat → Int32) × Int32 × (Nat → Int32)) :=
  bd3 (f_Row_addWord 8000 t0 tn tf) (fun r92 tn_92 tf_92 => bd1 (f_Row_count tn_92) (fun r101 => (if r92 = 0 then (j_FW_addRow_161 N x3 r101 tn_92 tf_92 mc ms ml dn df laf eaf pkn pkf ) else (if x6 = 0 then bd3 (f_Row_addFrom 8000 8000 x1 x2 tn_92 tf_92 gn gf) (fun r151 tn_151 tf_151 => (if r151 = 0 then (j_FW_addRow_161 N x3 r101 tn_151 tf_151 mc ms ml dn df laf eaf pkn pkf ) else (j_FW_addRow_157 N x3 r101 tn_151 tf_151 mc ms ml dn df laf eaf pkn pkf ))) else bd1 (f_Row_count pkn) (fun r129 => bd3 (f_Row_addFrom 8000 8000 (0 : Int32) r129 tn_92 tf_92 pkn pkf) (fun r132 tn_132 tf_132 => (if r132 = 0 then (j_FW_addRow_161 N x3 r101 tn_132 tf_132 mc ms ml dn df laf eaf pkn pkf ) else (j_FW_addRow_157 N x3 r101 tn_132 tf_132 mc ms ml dn df laf eaf pkn pkf ))))))))
set_option maxHeartbeats 4000000 in
set_option maxRecDepth 100000 in
theorem k_FW_addRow_92 {r_z : Int32} {tn_z : Int32} {tf_z : Nat → Int32} {mc_z : Int32} {ms_z : Int32} {ml_z : Int32} {dn_z : Int32} {df_z : Nat → Int32} {laf_z : Nat → Int32} {eaf_z : Nat → Int32} {pkn_z : Int32} {pkf_z : Nat → Int32} (C : Fx p s m args meth c cd_FW_addRow 9 R_FW lw_g (some .boolean)) (hK : va_K (dC, dI) vwCl [(cB, .byte), (cI, .int), (cJ, .long)] s) (hA : ∀ q, s.heap.size ≤ q → A q) (x1 : Int32) (x2 : Int32) (x3 : Int32) (x6 : Int32) (t0 : Int32) (gn : Int32) (gf : Nat → Int32) (tn : Int32) (tf : Nat → Int32) (mc : Int32) (ms : Int32) (ml : Int32) (dn : Int32) (df : Nat → Int32) (laf : Nat → Int32) (eaf : Nat → Int32) (hsn : Int32) (pkn : Int32) (pkf : Nat → Int32)  (hf : j_FW_addRow_92 N x1 x2 x3 x6 t0 gn gf tn tf mc ms ml dn df laf eaf pkn pkf  = some (r_z, tn_z, tf_z, mc_z, ms_z, ml_z, dn_z, df_z, laf_z, eaf_z, pkn_z, pkf_z)) (hP : va_P (dC, dI) vwCl (wd_FW_addRow fw g ga t ta bw mt d da la ea hs pk pka hsa cB cI cJ gn gf tn tf mc ms ml dn df laf eaf hsn pkn pkf) H) (hD : va_D A (wd_FW_addRow fw g ga t ta bw mt d da la ea hs pk pka hsa cB cI cJ gn gf tn tf mc ms ml dn df laf eaf hsn pkn pkf)) (hS : va_S A s.heap H locs) (hl : lv_has ls 9 [(0, .ref fw), (1, .int x1), (2, .int x2), (3, .int x3), (6, .int x6)]) : W p l e rm_FW_addRow s m args below meth c H locs 0 0 (MQ below (sQi (dC, dI) vwCl [(cB, .byte), (cI, .int), (cJ, .long)] A r_z (wd_FW_addRow fw g ga t ta bw mt d da la ea hs pk pka hsa cB cI cJ gn gf tn_z tf_z mc_z ms_z ml_z dn_z df_z laf_z eaf_z hsn pkn_z pkf_z)) args s 0 0 A) (F0 m 92 ls [.int t0, .ref t]) := by
  obtain ⟨hx, hb, hml, hown, hts, hr, hlocks, hZ⟩ := id C
  unfold j_FW_addRow_92 at hf
  obtain ⟨r92, tn_92, tf_92, hc92, hf⟩ := bd3_some hf
  refine s_Vi (As := [.int t0]) (rest := []) (wr := [(fw, .inr (4, [.ref g, .ref t, .ref bw, .ref pk])), (g, .inr (1, [.ref ga, .int gn])), (ga, .inl (cB, 8000, .inl gf)), (bw, .inr (2, [.ref hs, .ref mt, .ref d])), (mt, .inr (3, [.ref d, .ref la, .ref ea, .int mc, .int ms, .int ml])), (d, .inr (1, [.ref da, .int dn])), (da, .inl (cB, 16000, .inl df)), (la, .inl (cI, 4096, .inl laf)), (ea, .inl (cI, 16000, .inl eaf)), (hs, .inr (1, [.ref hsa, .int hsn])), (pk, .inr (1, [.ref pka, .int pkn])), (pka, .inl (cB, 8000, .inl pkf))]) (ws' := wd_FW_addRow fw g ga t ta bw mt d da la ea hs pk pka hsa cB cI cJ gn gf tn_92 tf_92 mc ms ml dn df laf eaf hsn pkn pkf) C.call (c_Row_addWord l dC dI cB cI cJ t ta 8000 tn tf t0 hc92) (cwV 1 hts (gd_V w_169 w_170 w_171 w_12 w_172) rfl rfl rfl ⟨rfl, hd_Row_addWord⟩ ⟨Nat.le_of_ble_eq_true rfl, Nat.le_of_ble_eq_true rfl⟩) rfl hl.1 rfl (Nat.le_of_ble_eq_true rfl) d_FW_addRow_92 ⟨Nat.le_of_ble_eq_true rfl, Nat.le_of_ble_eq_true rfl⟩ hZ hK hP hD hS hA 1 3 rfl rfl [3, 4] [0, 1, 2, 5, 6, 7, 8, 9, 10, 11, 12, 13] [0, 1, 2, 12, 13, 3, 4, 5, 6, 7, 8, 9, 10, 11] rfl rfl rfl rfl (by decide) rfl rfl (fun H locs hP hD hS => ?_)
  refine lv_istore (lv' := [(7, .int r92), (0, .ref fw), (1, .int x1), (2, .int x2), (3, .int x3), (6, .int x6)]) hx hb d_FW_addRow_95 hl (by decide) rfl (fun ls hl => ?_)
  refine lv_aload_n hx hb d_FW_addRow_97 rfl (lv_at hl 1 rfl) ?_
  refine va_get (D := (dC, dI)) (ci := 4) (v := .ref t) (C := R_FW) (T := T_FW) (N := 4) hx hb hts w_166 hown hK hP 0 rfl rfl 1 (by decide) (hts _ w_167) (fun _ h9 => h9) rfl d_FW_addRow_98 ?_
  obtain ⟨r101, hc101, hf⟩ := bd1_some hf
  refine s_Vi (As := []) (rest := []) (wr := [(fw, .inr (4, [.ref g, .ref t, .ref bw, .ref pk])), (g, .inr (1, [.ref ga, .int gn])), (ga, .inl (cB, 8000, .inl gf)), (ta, .inl (cB, 8000, .inl tf_92)), (bw, .inr (2, [.ref hs, .ref mt, .ref d])), (mt, .inr (3, [.ref d, .ref la, .ref ea, .int mc, .int ms, .int ml])), (d, .inr (1, [.ref da, .int dn])), (da, .inl (cB, 16000, .inl df)), (la, .inl (cI, 4096, .inl laf)), (ea, .inl (cI, 16000, .inl eaf)), (hs, .inr (1, [.ref hsa, .int hsn])), (pk, .inr (1, [.ref pka, .int pkn])), (pka, .inl (cB, 8000, .inl pkf))]) (ws' := wd_FW_addRow fw g ga t ta bw mt d da la ea hs pk pka hsa cB cI cJ gn gf tn_92 tf_92 mc ms ml dn df laf eaf hsn pkn pkf) C.call (c_Row_count l dC dI cB cI cJ t ta  tn_92  hc101) (cwV 0 hts (gd_V w_173 w_10 w_11 w_12 w_13) rfl rfl rfl ⟨rfl, hd_Row_count⟩ ⟨Nat.le_of_ble_eq_true rfl, Nat.le_of_ble_eq_true rfl⟩) rfl hl.1 rfl (Nat.le_of_ble_eq_true rfl) d_FW_addRow_101 ⟨Nat.le_of_ble_eq_true rfl, Nat.le_of_ble_eq_true rfl⟩ hZ hK hP hD hS hA 1 3 rfl rfl [3] [0, 1, 2, 4, 5, 6, 7, 8, 9, 10, 11, 12, 13] [0, 1, 2, 13, 3, 4, 5, 6, 7, 8, 9, 10, 11, 12] rfl rfl rfl rfl (by decide) rfl rfl (fun H locs hP hD hS => ?_)
  refine lv_istore (lv' := [(8, .int r101), (7, .int r92), (0, .ref fw), (1, .int x1), (2, .int x2), (3, .int x3), (6, .int x6)]) hx hb d_FW_addRow_104 hl (by decide) rfl (fun ls hl => ?_)
  refine lv_iload hx hb d_FW_addRow_106 (lv_at hl 1 rfl) ?_
  refine lv_if_eq (tgt := 161) hx hb d_FW_addRow_108 (by decide) (fun c_108 => ?_) (fun c_108 => ?_)
  · have hf := br_pos c_108 hf
    exact k_FW_addRow_161 C hK hA x3 r101 gn gf tn_92 tf_92 mc ms ml dn df laf eaf hsn pkn pkf  hf hP hD hS (lv_sub hl [2, 5, 0] rfl)
  · have hf := br_neg c_108 hf
    refine lv_iload hx hb d_FW_addRow_111 (lv_at hl 6 rfl) ?_
    refine lv_if_eq (tgt := 141) hx hb d_FW_addRow_113 (by decide) (fun c_113 => ?_) (fun c_113 => ?_)
    · have hf := br_pos c_113 hf
      refine lv_aload_n hx hb d_FW_addRow_141 rfl (lv_at hl 2 rfl) ?_
      refine va_get (D := (dC, dI)) (ci := 4) (v := .ref t) (C := R_FW) (T := T_FW) (N := 4) hx hb hts w_166 hown hK hP 0 rfl rfl 1 (by decide) (hts _ w_167) (fun _ h9 => h9) rfl d_FW_addRow_142 ?_
      refine lv_aload_n hx hb d_FW_addRow_145 rfl (lv_at hl 2 rfl) ?_
      refine va_get (D := (dC, dI)) (ci := 4) (v := .ref g) (C := R_FW) (T := T_FW) (N := 4) hx hb hts w_166 hown hK hP 0 rfl rfl 0 (by decide) (hts _ w_178) (fun _ h9 => h9) rfl d_FW_addRow_146 ?_
      refine lv_iload_n hx hb d_FW_addRow_149 rfl (lv_at hl 3 rfl) ?_
      refine lv_iload_n hx hb d_FW_addRow_150 rfl (lv_at hl 4 rfl) ?_
      obtain ⟨r151, tn_151, tf_151, hc151, hf⟩ := bd3_some hf
      refine s_Vi (As := [.ref g, .int x1, .int x2]) (rest := []) (wr := [(fw, .inr (4, [.ref g, .ref t, .ref bw, .ref pk])), (bw, .inr (2, [.ref hs, .ref mt, .ref d])), (mt, .inr (3, [.ref d, .ref la, .ref ea, .int mc, .int ms, .int ml])), (d, .inr (1, [.ref da, .int dn])), (da, .inl (cB, 16000, .inl df)), (la, .inl (cI, 4096, .inl laf)), (ea, .inl (cI, 16000, .inl eaf)), (hs, .inr (1, [.ref hsa, .int hsn])), (pk, .inr (1, [.ref pka, .int pkn])), (pka, .inl (cB, 8000, .inl pkf))]) (ws' := wd_FW_addRow fw g ga t ta bw mt d da la ea hs pk pka hsa cB cI cJ gn gf tn_151 tf_151 mc ms ml dn df laf eaf hsn pkn pkf) C.call (c_Row_addFrom l dC dI cB cI cJ t ta g ga 8000 8000 tn_92 tf_92 gn gf x1 x2 hc151) (cwV 3 hts (gd_V w_191 w_19 w_20 w_12 w_21) rfl rfl rfl ⟨rfl, hd_Row_addFrom⟩ ⟨Nat.le_of_ble_eq_true rfl, Nat.le_of_ble_eq_true rfl⟩) rfl hl.1 rfl (Nat.le_of_ble_eq_true rfl) d_FW_addRow_151 ⟨Nat.le_of_ble_eq_true rfl, Nat.le_of_ble_eq_true rfl⟩ hZ hK hP hD hS hA 1 3 rfl rfl [3, 4, 1, 2] [0, 5, 6, 7, 8, 9, 10, 11, 12, 13] [0, 12, 13, 10, 11, 1, 2, 3, 4, 5, 6, 7, 8, 9] rfl rfl rfl rfl (by decide) rfl rfl (fun H locs hP hD hS => ?_)
      refine lv_if_eq (tgt := 161) hx hb d_FW_addRow_154 (by decide) (fun c_154 => ?_) (fun c_154 => ?_)
      · have hf := br_pos c_154 hf
        exact k_FW_addRow_161 C hK hA x3 r101 gn gf tn_151 tf_151 mc ms ml dn df laf eaf hsn pkn pkf  hf hP hD hS (lv_sub hl [2, 5, 0] rfl)
      · have hf := br_neg c_154 hf
        exact k_FW_addRow_157 C hK hA x3 r101 gn gf tn_151 tf_151 mc ms ml dn df laf eaf hsn pkn pkf  hf hP hD hS (lv_sub hl [2, 5, 0] rfl)
    · have hf := br_neg c_113 hf
      refine lv_aload_n hx hb d_FW_addRow_116 rfl (lv_at hl 2 rfl) ?_
      refine va_get (D := (dC, dI)) (ci := 4) (v := .ref t) (C := R_FW) (T := T_FW) (N := 4) hx hb hts w_166 hown hK hP 0 rfl rfl 1 (by decide) (hts _ w_167) (fun _ h9 => h9) rfl d_FW_addRow_117 ?_
      refine lv_aload_n hx hb d_FW_addRow_120 rfl (lv_at hl 2 rfl) ?_
      refine va_get (D := (dC, dI)) (ci := 4) (v := .ref pk) (C := R_FW) (T := T_FW) (N := 4) hx hb hts w_166 hown hK hP 0 rfl rfl 3 (by decide) (hts _ w_186) (fun _ h9 => h9) rfl d_FW_addRow_121 ?_
      refine lv_iconst (v := 0) hx hb d_FW_addRow_124 (by decide) ?_
      refine lv_aload_n hx hb d_FW_addRow_125 rfl (lv_at hl 2 rfl) ?_
      refine va_get (D := (dC, dI)) (ci := 4) (v := .ref pk) (C := R_FW) (T := T_FW) (N := 4) hx hb hts w_166 hown hK hP 0 rfl rfl 3 (by decide) (hts _ w_186) (fun _ h9 => h9) rfl d_FW_addRow_126 ?_
      obtain ⟨r129, hc129, hf⟩ := bd1_some hf
      refine s_Vi (As := []) (rest := [.int (0 : Int32), .ref pk, .ref t]) (wr := [(fw, .inr (4, [.ref g, .ref t, .ref bw, .ref pk])), (g, .inr (1, [.ref ga, .int gn])), (ga, .inl (cB, 8000, .inl gf)), (t, .inr (1, [.ref ta, .int tn_92])), (ta, .inl (cB, 8000, .inl tf_92)), (bw, .inr (2, [.ref hs, .ref mt, .ref d])), (mt, .inr (3, [.ref d, .ref la, .ref ea, .int mc, .int ms, .int ml])), (d, .inr (1, [.ref da, .int dn])), (da, .inl (cB, 16000, .inl df)), (la, .inl (cI, 4096, .inl laf)), (ea, .inl (cI, 16000, .inl eaf)), (hs, .inr (1, [.ref hsa, .int hsn])), (pka, .inl (cB, 8000, .inl pkf))]) (ws' := wd_FW_addRow fw g ga t ta bw mt d da la ea hs pk pka hsa cB cI cJ gn gf tn_92 tf_92 mc ms ml dn df laf eaf hsn pkn pkf) C.call (c_Row_count l dC dI cB cI cJ pk pka  pkn  hc129) (cwV 0 hts (gd_V w_173 w_10 w_11 w_12 w_13) rfl rfl rfl ⟨rfl, hd_Row_count⟩ ⟨Nat.le_of_ble_eq_true rfl, Nat.le_of_ble_eq_true rfl⟩) rfl hl.1 rfl (Nat.le_of_ble_eq_true rfl) d_FW_addRow_129 ⟨Nat.le_of_ble_eq_true rfl, Nat.le_of_ble_eq_true rfl⟩ hZ hK hP hD hS hA 1 12 rfl rfl [12] [0, 1, 2, 3, 4, 5, 6, 7, 8, 9, 10, 11, 13] [0, 1, 2, 3, 4, 5, 6, 7, 8, 9, 10, 11, 13, 12] rfl rfl rfl rfl (by decide) rfl rfl (fun H locs hP hD hS => ?_)
      obtain ⟨r132, tn_132, tf_132, hc132, hf⟩ := bd3_some hf
      refine s_Vi (As := [.ref pk, .int (0 : Int32), .int r129]) (rest := []) (wr := [(fw, .inr (4, [.ref g, .ref t, .ref bw, .ref pk])), (g, .inr (1, [.ref ga, .int gn])), (ga, .inl (cB, 8000, .inl gf)), (bw, .inr (2, [.ref hs, .ref mt, .ref d])), (mt, .inr (3, [.ref d, .ref la, .ref ea, .int mc, .int ms, .int ml])), (d, .inr (1, [.ref da, .int dn])), (da, .inl (cB, 16000, .inl df)), (la, .inl (cI, 4096, .inl laf)), (ea, .inl (cI, 16000, .inl eaf)), (hs, .inr (1, [.ref hsa, .int hsn]))]) (ws' := wd_FW_addRow fw g ga t ta bw mt d da la ea hs pk pka hsa cB cI cJ gn gf tn_132 tf_132 mc ms ml dn df laf eaf hsn pkn pkf) C.call (c_Row_addFrom l dC dI cB cI cJ t ta pk pka 8000 8000 tn_92 tf_92 pkn pkf (0 : Int32) r129 hc132) (cwV 3 hts (gd_V w_191 w_19 w_20 w_12 w_21) rfl rfl rfl ⟨rfl, hd_Row_addFrom⟩ ⟨Nat.le_of_ble_eq_true rfl, Nat.le_of_ble_eq_true rfl⟩) rfl hl.1 rfl (Nat.le_of_ble_eq_true rfl) d_FW_addRow_132 ⟨Nat.le_of_ble_eq_true rfl, Nat.le_of_ble_eq_true rfl⟩ hZ hK hP hD hS hA 1 3 rfl rfl [3, 4, 12, 13] [0, 1, 2, 5, 6, 7, 8, 9, 10, 11] [0, 1, 2, 10, 11, 3, 4, 5, 6, 7, 8, 9, 12, 13] rfl rfl rfl rfl (by decide) rfl rfl (fun H locs hP hD hS => ?_)
      refine lv_if_eq (tgt := 161) hx hb d_FW_addRow_135 (by decide) (fun c_135 => ?_) (fun c_135 => ?_)
      · have hf := br_pos c_135 hf
        exact k_FW_addRow_161 C hK hA x3 r101 gn gf tn_132 tf_132 mc ms ml dn df laf eaf hsn pkn pkf  hf hP hD hS (lv_sub hl [2, 5, 0] rfl)
      · have hf := br_neg c_135 hf
        refine lv_goto (tgt := 157) hx hb d_FW_addRow_138 (by decide) ?_
        exact k_FW_addRow_157 C hK hA x3 r101 gn gf tn_132 tf_132 mc ms ml dn df laf eaf hsn pkn pkf  hf hP hD hS (lv_sub hl [2, 5, 0] rfl)
noncomputable def j_FW_addRow_66 (N : Nat) (x1 : Int32) (x2 : Int32) (x3 : Int32) (x5 : Int32) (t0 : Int32) (gn : Int32) (gf : Nat → Int32) (tn : Int32) (tf : Nat → Int32) (mc : Int32) (ms : Int32) (ml : Int32) (dn : Int32) (df : Nat → Int32) (laf : Nat → Int32) (eaf : Nat → Int32) (pkn : Int32) (pkf : Nat → Int32)  : Option (Int32 × Int32 × (Nat → Int32) × Int32 × Int32 × Int32 × Int32 × (Nat → Int32) × (Nat → Int32) × (Nat → Int32) × Int32 × (Nat → Int32)) :=
  (if t0 = 0 then (j_FW_addRow_92 N x1 x2 x3 t0 (x5 ||| (-2147483648 : Int32)) gn gf tn tf mc ms ml dn df laf eaf pkn pkf ) else bd1 (f_Row_count pkn) (fun r81 => (j_FW_addRow_92 N x1 x2 x3 t0 r81 gn gf tn tf mc ms ml dn df laf eaf pkn pkf )))
set_option maxHeartbeats 4000000 in
set_option maxRecDepth 100000 in
theorem k_FW_addRow_66 {r_z : Int32} {tn_z : Int32} {tf_z : Nat → Int32} {mc_z : Int32} {ms_z : Int32} {ml_z : Int32} {dn_z : Int32} {df_z : Nat → Int32} {laf_z : Nat → Int32} {eaf_z : Nat → Int32} {pkn_z : Int32} {pkf_z : Nat → Int32} (C : Fx p s m args meth c cd_FW_addRow 9 R_FW lw_g (some .boolean)) (hK : va_K (dC, dI) vwCl [(cB, .byte), (cI, .int), (cJ, .long)] s) (hA : ∀ q, s.heap.size ≤ q → A q) (x1 : Int32) (x2 : Int32) (x3 : Int32) (x5 : Int32) (t0 : Int32) (gn : Int32) (gf : Nat → Int32) (tn : Int32) (tf : Nat → Int32) (mc : Int32) (ms : Int32) (ml : Int32) (dn : Int32) (df : Nat → Int32) (laf : Nat → Int32) (eaf : Nat → Int32) (hsn : Int32) (pkn : Int32) (pkf : Nat → Int32)  (hf : j_FW_addRow_66 N x1 x2 x3 x5 t0 gn gf tn tf mc ms ml dn df laf eaf pkn pkf  = some (r_z, tn_z, tf_z, mc_z, ms_z, ml_z, dn_z, df_z, laf_z, eaf_z, pkn_z, pkf_z)) (hP : va_P (dC, dI) vwCl (wd_FW_addRow fw g ga t ta bw mt d da la ea hs pk pka hsa cB cI cJ gn gf tn tf mc ms ml dn df laf eaf hsn pkn pkf) H) (hD : va_D A (wd_FW_addRow fw g ga t ta bw mt d da la ea hs pk pka hsa cB cI cJ gn gf tn tf mc ms ml dn df laf eaf hsn pkn pkf)) (hS : va_S A s.heap H locs) (hl : lv_has ls 9 [(0, .ref fw), (1, .int x1), (2, .int x2), (3, .int x3), (5, .int x5)]) : W p l e rm_FW_addRow s m args below meth c H locs 0 0 (MQ below (sQi (dC, dI) vwCl [(cB, .byte), (cI, .int), (cJ, .long)] A r_z (wd_FW_addRow fw g ga t ta bw mt d da la ea hs pk pka hsa cB cI cJ gn gf tn_z tf_z mc_z ms_z ml_z dn_z df_z laf_z eaf_z hsn pkn_z pkf_z)) args s 0 0 A) (F0 m 66 ls [.int t0]) := by
  obtain ⟨hx, hb, hml, hown, hts, hr, hlocks, hZ⟩ := id C
  unfold j_FW_addRow_66 at hf
  refine lv_istore (lv' := [(6, .int t0), (0, .ref fw), (1, .int x1), (2, .int x2), (3, .int x3), (5, .int x5)]) hx hb d_FW_addRow_66 hl (by decide) rfl (fun ls hl => ?_)
  refine lv_aload_n hx hb d_FW_addRow_68 rfl (lv_at hl 1 rfl) ?_
  refine va_get (D := (dC, dI)) (ci := 4) (v := .ref t) (C := R_FW) (T := T_FW) (N := 4) hx hb hts w_166 hown hK hP 0 rfl rfl 1 (by decide) (hts _ w_167) (fun _ h9 => h9) rfl d_FW_addRow_69 ?_
  refine lv_iload hx hb d_FW_addRow_72 (lv_at hl 0 rfl) ?_
  refine lv_if_eq (tgt := 87) hx hb d_FW_addRow_74 (by decide) (fun c_74 => ?_) (fun c_74 => ?_)
  · have hf := br_pos c_74 hf
    refine lv_iload hx hb d_FW_addRow_87 (lv_at hl 5 rfl) ?_
    refine lv_ldc (v := -2147483648) hx hb hown (hts _ w_190) d_FW_addRow_89 ?_
    refine lv_ior hx hb d_FW_addRow_91 ?_
    exact k_FW_addRow_92 C hK hA x1 x2 x3 t0 (x5 ||| (-2147483648 : Int32)) gn gf tn tf mc ms ml dn df laf eaf hsn pkn pkf  hf hP hD hS (lv_sub hl [1, 2, 3, 4, 0] rfl)
  · have hf := br_neg c_74 hf
    refine lv_aload_n hx hb d_FW_addRow_77 rfl (lv_at hl 1 rfl) ?_
    refine va_get (D := (dC, dI)) (ci := 4) (v := .ref pk) (C := R_FW) (T := T_FW) (N := 4) hx hb hts w_166 hown hK hP 0 rfl rfl 3 (by decide) (hts _ w_186) (fun _ h9 => h9) rfl d_FW_addRow_78 ?_
    obtain ⟨r81, hc81, hf⟩ := bd1_some hf
    refine s_Vi (As := []) (rest := [.ref t]) (wr := [(fw, .inr (4, [.ref g, .ref t, .ref bw, .ref pk])), (g, .inr (1, [.ref ga, .int gn])), (ga, .inl (cB, 8000, .inl gf)), (t, .inr (1, [.ref ta, .int tn])), (ta, .inl (cB, 8000, .inl tf)), (bw, .inr (2, [.ref hs, .ref mt, .ref d])), (mt, .inr (3, [.ref d, .ref la, .ref ea, .int mc, .int ms, .int ml])), (d, .inr (1, [.ref da, .int dn])), (da, .inl (cB, 16000, .inl df)), (la, .inl (cI, 4096, .inl laf)), (ea, .inl (cI, 16000, .inl eaf)), (hs, .inr (1, [.ref hsa, .int hsn])), (pka, .inl (cB, 8000, .inl pkf))]) (ws' := wd_FW_addRow fw g ga t ta bw mt d da la ea hs pk pka hsa cB cI cJ gn gf tn tf mc ms ml dn df laf eaf hsn pkn pkf) C.call (c_Row_count l dC dI cB cI cJ pk pka  pkn  hc81) (cwV 0 hts (gd_V w_173 w_10 w_11 w_12 w_13) rfl rfl rfl ⟨rfl, hd_Row_count⟩ ⟨Nat.le_of_ble_eq_true rfl, Nat.le_of_ble_eq_true rfl⟩) rfl hl.1 rfl (Nat.le_of_ble_eq_true rfl) d_FW_addRow_81 ⟨Nat.le_of_ble_eq_true rfl, Nat.le_of_ble_eq_true rfl⟩ hZ hK hP hD hS hA 1 12 rfl rfl [12] [0, 1, 2, 3, 4, 5, 6, 7, 8, 9, 10, 11, 13] [0, 1, 2, 3, 4, 5, 6, 7, 8, 9, 10, 11, 13, 12] rfl rfl rfl rfl (by decide) rfl rfl (fun H locs hP hD hS => ?_)
    refine lv_goto (tgt := 92) hx hb d_FW_addRow_84 (by decide) ?_
    exact k_FW_addRow_92 C hK hA x1 x2 x3 t0 r81 gn gf tn tf mc ms ml dn df laf eaf hsn pkn pkf  hf hP hD hS (lv_sub hl [1, 2, 3, 4, 0] rfl)
noncomputable def j_FW_addRow_65 (N : Nat) (x1 : Int32) (x2 : Int32) (x3 : Int32) (x5 : Int32) (gn : Int32) (gf : Nat → Int32) (tn : Int32) (tf : Nat → Int32) (mc : Int32) (ms : Int32) (ml : Int32) (dn : Int32) (df : Nat → Int32) (laf : Nat → Int32) (eaf : Nat → Int32) (pkn : Int32) (pkf : Nat → Int32)  : Option (Int32 × Int32 × (Nat → Int32) × Int32 × Int32 × Int32 × Int32 × (Nat → Int32) × (Nat → Int32) × (Nat → Int32) × Int32 × (Nat → Int32)) :=
  (j_FW_addRow_66 N x1 x2 x3 x5 (0 : Int32) gn gf tn tf mc ms ml dn df laf eaf pkn pkf )
set_option maxHeartbeats 4000000 in
set_option maxRecDepth 100000 in
theorem k_FW_addRow_65 {r_z : Int32} {tn_z : Int32} {tf_z : Nat → Int32} {mc_z : Int32} {ms_z : Int32} {ml_z : Int32} {dn_z : Int32} {df_z : Nat → Int32} {laf_z : Nat → Int32} {eaf_z : Nat → Int32} {pkn_z : Int32} {pkf_z : Nat → Int32} (C : Fx p s m args meth c cd_FW_addRow 9 R_FW lw_g (some .boolean)) (hK : va_K (dC, dI) vwCl [(cB, .byte), (cI, .int), (cJ, .long)] s) (hA : ∀ q, s.heap.size ≤ q → A q) (x1 : Int32) (x2 : Int32) (x3 : Int32) (x5 : Int32) (gn : Int32) (gf : Nat → Int32) (tn : Int32) (tf : Nat → Int32) (mc : Int32) (ms : Int32) (ml : Int32) (dn : Int32) (df : Nat → Int32) (laf : Nat → Int32) (eaf : Nat → Int32) (hsn : Int32) (pkn : Int32) (pkf : Nat → Int32)  (hf : j_FW_addRow_65 N x1 x2 x3 x5 gn gf tn tf mc ms ml dn df laf eaf pkn pkf  = some (r_z, tn_z, tf_z, mc_z, ms_z, ml_z, dn_z, df_z, laf_z, eaf_z, pkn_z, pkf_z)) (hP : va_P (dC, dI) vwCl (wd_FW_addRow fw g ga t ta bw mt d da la ea hs pk pka hsa cB cI cJ gn gf tn tf mc ms ml dn df laf eaf hsn pkn pkf) H) (hD : va_D A (wd_FW_addRow fw g ga t ta bw mt d da la ea hs pk pka hsa cB cI cJ gn gf tn tf mc ms ml dn df laf eaf hsn pkn pkf)) (hS : va_S A s.heap H locs) (hl : lv_has ls 9 [(0, .ref fw), (1, .int x1), (2, .int x2), (3, .int x3), (5, .int x5)]) : W p l e rm_FW_addRow s m args below meth c H locs 0 0 (MQ below (sQi (dC, dI) vwCl [(cB, .byte), (cI, .int), (cJ, .long)] A r_z (wd_FW_addRow fw g ga t ta bw mt d da la ea hs pk pka hsa cB cI cJ gn gf tn_z tf_z mc_z ms_z ml_z dn_z df_z laf_z eaf_z hsn pkn_z pkf_z)) args s 0 0 A) (F0 m 65 ls []) := by
  obtain ⟨hx, hb, hml, hown, hts, hr, hlocks, hZ⟩ := id C
  unfold j_FW_addRow_65 at hf
  refine lv_iconst (v := 0) hx hb d_FW_addRow_65 (by decide) ?_
  exact k_FW_addRow_66 C hK hA x1 x2 x3 x5 (0 : Int32) gn gf tn tf mc ms ml dn df laf eaf hsn pkn pkf  hf hP hD hS (lv_sub hl [0, 1, 2, 3, 4] rfl)
noncomputable def j_FW_addRow_14 (N : Nat) (x1 : Int32) (x2 : Int32) (x3 : Int32) (x4 : Int32) (gn : Int32) (gf : Nat → Int32) (tn : Int32) (tf : Nat → Int32) (mc : Int32) (ms : Int32) (ml : Int32) (dn : Int32) (df : Nat → Int32) (laf : Nat → Int32) (eaf : Nat → Int32) (pkn : Int32) (pkf : Nat → Int32)  : Option (Int32 × Int32 × (Nat → Int32) × Int32 × Int32 × Int32 × Int32 × (Nat → Int32) × (Nat → Int32) × (Nat → Int32) × Int32 × (Nat → Int32)) :=
  bd1 (f_Row_cutTo (0 : Int32) pkn) (fun pkn_19 => bd10 (f_BW_pack N x1 x2 x4 mc ms ml dn df laf eaf gn gf pkn_19 pkf) (fun r43 mc_43 ms_43 ml_43 dn_43 df_43 laf_43 eaf_43 pkn_43 pkf_43 => (if r43 = 0 then (j_FW_addRow_65 N x1 x2 x3 (x2 - x1) gn gf tn tf mc_43 ms_43 ml_43 dn_43 df_43 laf_43 eaf_43 pkn_43 pkf_43 ) else bd1 (f_Row_count pkn_43) (fun r53 => (if (x2 - x1) ≤ r53 then (j_FW_addRow_65 N x1 x2 x3 (x2 - x1) gn gf tn tf mc_43 ms_43 ml_43 dn_43 df_43 laf_43 eaf_43 pkn_43 pkf_43 ) else (j_FW_addRow_66 N x1 x2 x3 (x2 - x1) (1 : Int32) gn gf tn tf mc_43 ms_43 ml_43 dn_43 df_43 laf_43 eaf_43 pkn_43 pkf_43 ))))))
set_option maxHeartbeats 4000000 in
set_option maxRecDepth 100000 in
theorem k_FW_addRow_14 {r_z : Int32} {tn_z : Int32} {tf_z : Nat → Int32} {mc_z : Int32} {ms_z : Int32} {ml_z : Int32} {dn_z : Int32} {df_z : Nat → Int32} {laf_z : Nat → Int32} {eaf_z : Nat → Int32} {pkn_z : Int32} {pkf_z : Nat → Int32} (C : Fx p s m args meth c cd_FW_addRow 9 R_FW lw_g (some .boolean)) (hK : va_K (dC, dI) vwCl [(cB, .byte), (cI, .int), (cJ, .long)] s) (hA : ∀ q, s.heap.size ≤ q → A q) (x1 : Int32) (x2 : Int32) (x3 : Int32) (x4 : Int32) (gn : Int32) (gf : Nat → Int32) (tn : Int32) (tf : Nat → Int32) (mc : Int32) (ms : Int32) (ml : Int32) (dn : Int32) (df : Nat → Int32) (laf : Nat → Int32) (eaf : Nat → Int32) (hsn : Int32) (pkn : Int32) (pkf : Nat → Int32)  (hf : j_FW_addRow_14 N x1 x2 x3 x4 gn gf tn tf mc ms ml dn df laf eaf pkn pkf  = some (r_z, tn_z, tf_z, mc_z, ms_z, ml_z, dn_z, df_z, laf_z, eaf_z, pkn_z, pkf_z)) (hP : va_P (dC, dI) vwCl (wd_FW_addRow fw g ga t ta bw mt d da la ea hs pk pka hsa cB cI cJ gn gf tn tf mc ms ml dn df laf eaf hsn pkn pkf) H) (hD : va_D A (wd_FW_addRow fw g ga t ta bw mt d da la ea hs pk pka hsa cB cI cJ gn gf tn tf mc ms ml dn df laf eaf hsn pkn pkf)) (hS : va_S A s.heap H locs) (hl : lv_has ls 9 [(0, .ref fw), (1, .int x1), (2, .int x2), (3, .int x3), (4, .int x4)]) : W p l e rm_FW_addRow s m args below meth c H locs 0 0 (MQ below (sQi (dC, dI) vwCl [(cB, .byte), (cI, .int), (cJ, .long)] A r_z (wd_FW_addRow fw g ga t ta bw mt d da la ea hs pk pka hsa cB cI cJ gn gf tn_z tf_z mc_z ms_z ml_z dn_z df_z laf_z eaf_z hsn pkn_z pkf_z)) args s 0 0 A) (F0 m 14 ls []) := by
  obtain ⟨hx, hb, hml, hown, hts, hr, hlocks, hZ⟩ := id C
  unfold j_FW_addRow_14 at hf
  refine lv_aload_n hx hb d_FW_addRow_14 rfl (lv_at hl 0 rfl) ?_
  refine va_get (D := (dC, dI)) (ci := 4) (v := .ref pk) (C := R_FW) (T := T_FW) (N := 4) hx hb hts w_166 hown hK hP 0 rfl rfl 3 (by decide) (hts _ w_186) (fun _ h9 => h9) rfl d_FW_addRow_15 ?_
  refine lv_iconst (v := 0) hx hb d_FW_addRow_18 (by decide) ?_
  obtain ⟨pkn_19, hc19, hf⟩ := bd1_some hf
  refine s_Vv (As := [.int (0 : Int32)]) (rest := []) (wr := [(fw, .inr (4, [.ref g, .ref t, .ref bw, .ref pk])), (g, .inr (1, [.ref ga, .int gn])), (ga, .inl (cB, 8000, .inl gf)), (t, .inr (1, [.ref ta, .int tn])), (ta, .inl (cB, 8000, .inl tf)), (bw, .inr (2, [.ref hs, .ref mt, .ref d])), (mt, .inr (3, [.ref d, .ref la, .ref ea, .int mc, .int ms, .int ml])), (d, .inr (1, [.ref da, .int dn])), (da, .inl (cB, 16000, .inl df)), (la, .inl (cI, 4096, .inl laf)), (ea, .inl (cI, 16000, .inl eaf)), (hs, .inr (1, [.ref hsa, .int hsn])), (pka, .inl (cB, 8000, .inl pkf))]) (ws' := wd_FW_addRow fw g ga t ta bw mt d da la ea hs pk pka hsa cB cI cJ gn gf tn tf mc ms ml dn df laf eaf hsn pkn_19 pkf) C.call (c_Row_cutTo l dC dI cB cI cJ pk pka  pkn (0 : Int32) hc19) (cwV 1 hts (gd_V w_187 w_30 w_31 w_12 w_32) rfl rfl rfl ⟨rfl, hd_Row_cutTo⟩ ⟨Nat.le_of_ble_eq_true rfl, Nat.le_of_ble_eq_true rfl⟩) rfl hl.1 rfl (Nat.le_of_ble_eq_true rfl) d_FW_addRow_19 ⟨Nat.le_of_ble_eq_true rfl, Nat.le_of_ble_eq_true rfl⟩ hZ hK hP hD hS hA 1 12 rfl rfl [12] [0, 1, 2, 3, 4, 5, 6, 7, 8, 9, 10, 11, 13] [0, 1, 2, 3, 4, 5, 6, 7, 8, 9, 10, 11, 13, 12] rfl rfl rfl rfl (by decide) rfl rfl (fun H locs hP hD hS => ?_)
  refine lv_iload_n hx hb d_FW_addRow_22 rfl (lv_at hl 2 rfl) ?_
  refine lv_iload_n hx hb d_FW_addRow_23 rfl (lv_at hl 1 rfl) ?_
  refine lv_isub hx hb d_FW_addRow_24 ?_
  refine lv_istore (lv' := [(5, .int (x2 - x1)), (0, .ref fw), (1, .int x1), (2, .int x2), (3, .int x3), (4, .int x4)]) hx hb d_FW_addRow_25 hl (by decide) rfl (fun ls hl => ?_)
  refine lv_aload_n hx hb d_FW_addRow_27 rfl (lv_at hl 1 rfl) ?_
  refine va_get (D := (dC, dI)) (ci := 4) (v := .ref bw) (C := R_FW) (T := T_FW) (N := 4) hx hb hts w_166 hown hK hP 0 rfl rfl 2 (by decide) (hts _ w_188) (fun _ h9 => h9) rfl d_FW_addRow_28 ?_
  refine lv_aload_n hx hb d_FW_addRow_31 rfl (lv_at hl 1 rfl) ?_
  refine va_get (D := (dC, dI)) (ci := 4) (v := .ref g) (C := R_FW) (T := T_FW) (N := 4) hx hb hts w_166 hown hK hP 0 rfl rfl 0 (by decide) (hts _ w_178) (fun _ h9 => h9) rfl d_FW_addRow_32 ?_
  refine lv_iload_n hx hb d_FW_addRow_35 rfl (lv_at hl 2 rfl) ?_
  refine lv_iload_n hx hb d_FW_addRow_36 rfl (lv_at hl 3 rfl) ?_
  refine lv_iload hx hb d_FW_addRow_37 (lv_at hl 5 rfl) ?_
  refine lv_aload_n hx hb d_FW_addRow_39 rfl (lv_at hl 1 rfl) ?_
  refine va_get (D := (dC, dI)) (ci := 4) (v := .ref pk) (C := R_FW) (T := T_FW) (N := 4) hx hb hts w_166 hown hK hP 0 rfl rfl 3 (by decide) (hts _ w_186) (fun _ h9 => h9) rfl d_FW_addRow_40 ?_
  obtain ⟨r43, mc_43, ms_43, ml_43, dn_43, df_43, laf_43, eaf_43, pkn_43, pkf_43, hc43, hf⟩ := bd10_some hf
  refine s_Vi (As := [.ref g, .int x1, .int x2, .int x4, .ref pk]) (rest := []) (wr := [(fw, .inr (4, [.ref g, .ref t, .ref bw, .ref pk])), (t, .inr (1, [.ref ta, .int tn])), (ta, .inl (cB, 8000, .inl tf)), (hs, .inr (1, [.ref hsa, .int hsn]))]) (ws' := wd_FW_addRow fw g ga t ta bw mt d da la ea hs pk pka hsa cB cI cJ gn gf tn tf mc_43 ms_43 ml_43 dn_43 df_43 laf_43 eaf_43 hsn pkn_43 pkf_43) C.call (c_BW_pack l dC dI cB cI cJ bw mt d da la ea g ga pk pka hs  mc ms ml dn df laf eaf gn gf pkn_19 pkf x1 x2 x4 hc43) (cwV 5 hts (gd_V w_189 w_138 w_139 w_46 w_140) rfl rfl rfl ⟨rfl, hd_BW_pack⟩ ⟨Nat.le_of_ble_eq_true rfl, Nat.le_of_ble_eq_true rfl⟩) rfl hl.1 rfl (Nat.le_of_ble_eq_true rfl) d_FW_addRow_43 ⟨Nat.le_of_ble_eq_true rfl, Nat.le_of_ble_eq_true rfl⟩ hZ hK hP hD hS hA 2 5 rfl rfl [5, 6, 7, 8, 9, 10, 1, 2, 12, 13] [0, 3, 4, 11] [0, 10, 11, 1, 2, 4, 5, 6, 7, 8, 9, 3, 12, 13] rfl rfl rfl rfl (by decide) rfl rfl (fun H locs hP hD hS => ?_)
  refine lv_if_eq (tgt := 65) hx hb d_FW_addRow_46 (by decide) (fun c_46 => ?_) (fun c_46 => ?_)
  · have hf := br_pos c_46 hf
    exact k_FW_addRow_65 C hK hA x1 x2 x3 (x2 - x1) gn gf tn tf mc_43 ms_43 ml_43 dn_43 df_43 laf_43 eaf_43 hsn pkn_43 pkf_43  hf hP hD hS (lv_sub hl [1, 2, 3, 4, 0] rfl)
  · have hf := br_neg c_46 hf
    refine lv_aload_n hx hb d_FW_addRow_49 rfl (lv_at hl 1 rfl) ?_
    refine va_get (D := (dC, dI)) (ci := 4) (v := .ref pk) (C := R_FW) (T := T_FW) (N := 4) hx hb hts w_166 hown hK hP 0 rfl rfl 3 (by decide) (hts _ w_186) (fun _ h9 => h9) rfl d_FW_addRow_50 ?_
    obtain ⟨r53, hc53, hf⟩ := bd1_some hf
    refine s_Vi (As := []) (rest := []) (wr := [(fw, .inr (4, [.ref g, .ref t, .ref bw, .ref pk])), (g, .inr (1, [.ref ga, .int gn])), (ga, .inl (cB, 8000, .inl gf)), (t, .inr (1, [.ref ta, .int tn])), (ta, .inl (cB, 8000, .inl tf)), (bw, .inr (2, [.ref hs, .ref mt, .ref d])), (mt, .inr (3, [.ref d, .ref la, .ref ea, .int mc_43, .int ms_43, .int ml_43])), (d, .inr (1, [.ref da, .int dn_43])), (da, .inl (cB, 16000, .inl df_43)), (la, .inl (cI, 4096, .inl laf_43)), (ea, .inl (cI, 16000, .inl eaf_43)), (hs, .inr (1, [.ref hsa, .int hsn])), (pka, .inl (cB, 8000, .inl pkf_43))]) (ws' := wd_FW_addRow fw g ga t ta bw mt d da la ea hs pk pka hsa cB cI cJ gn gf tn tf mc_43 ms_43 ml_43 dn_43 df_43 laf_43 eaf_43 hsn pkn_43 pkf_43) C.call (c_Row_count l dC dI cB cI cJ pk pka  pkn_43  hc53) (cwV 0 hts (gd_V w_173 w_10 w_11 w_12 w_13) rfl rfl rfl ⟨rfl, hd_Row_count⟩ ⟨Nat.le_of_ble_eq_true rfl, Nat.le_of_ble_eq_true rfl⟩) rfl hl.1 rfl (Nat.le_of_ble_eq_true rfl) d_FW_addRow_53 ⟨Nat.le_of_ble_eq_true rfl, Nat.le_of_ble_eq_true rfl⟩ hZ hK hP hD hS hA 1 12 rfl rfl [12] [0, 1, 2, 3, 4, 5, 6, 7, 8, 9, 10, 11, 13] [0, 1, 2, 3, 4, 5, 6, 7, 8, 9, 10, 11, 13, 12] rfl rfl rfl rfl (by decide) rfl rfl (fun H locs hP hD hS => ?_)
    refine lv_iload hx hb d_FW_addRow_56 (lv_at hl 0 rfl) ?_
    refine lv_icmp_ge (tgt := 65) hx hb d_FW_addRow_58 (by decide) (fun c_58 => ?_) (fun c_58 => ?_)
    · have hf := br_pos c_58 hf
      exact k_FW_addRow_65 C hK hA x1 x2 x3 (x2 - x1) gn gf tn tf mc_43 ms_43 ml_43 dn_43 df_43 laf_43 eaf_43 hsn pkn_43 pkf_43  hf hP hD hS (lv_sub hl [1, 2, 3, 4, 0] rfl)
    · have hf := br_neg c_58 hf
      refine lv_iconst (v := 1) hx hb d_FW_addRow_61 (by decide) ?_
      refine lv_goto (tgt := 66) hx hb d_FW_addRow_62 (by decide) ?_
      exact k_FW_addRow_66 C hK hA x1 x2 x3 (x2 - x1) (1 : Int32) gn gf tn tf mc_43 ms_43 ml_43 dn_43 df_43 laf_43 eaf_43 hsn pkn_43 pkf_43  hf hP hD hS (lv_sub hl [1, 2, 3, 4, 0] rfl)
noncomputable def j_FW_addRow_0 (N : Nat) (x1 : Int32) (x2 : Int32) (x3 : Int32) (x4 : Int32) (gn : Int32) (gf : Nat → Int32) (tn : Int32) (tf : Nat → Int32) (mc : Int32) (ms : Int32) (ml : Int32) (dn : Int32) (df : Nat → Int32) (laf : Nat → Int32) (eaf : Nat → Int32) (hsn : Int32) (pkn : Int32) (pkf : Nat → Int32)  : Option (Int32 × Int32 × (Nat → Int32) × Int32 × Int32 × Int32 × Int32 × (Nat → Int32) × (Nat → Int32) × (Nat → Int32) × Int32 × (Nat → Int32)) :=
  (if (x3 &&& (32 : Int32)) = 0 then (j_FW_addRow_14 N x1 x2 x3 x4 gn gf tn tf mc ms ml dn df laf eaf pkn pkf ) else bd3 (f_BW_dropContent N mc dn df laf eaf hsn) (fun mc_11 dn_11 laf_11 => (j_FW_addRow_14 N x1 x2 x3 x4 gn gf tn tf mc_11 ms ml dn_11 df laf_11 eaf pkn pkf )))
set_option maxHeartbeats 4000000 in
set_option maxRecDepth 100000 in
theorem k_FW_addRow_0 {r_z : Int32} {tn_z : Int32} {tf_z : Nat → Int32} {mc_z : Int32} {ms_z : Int32} {ml_z : Int32} {dn_z : Int32} {df_z : Nat → Int32} {laf_z : Nat → Int32} {eaf_z : Nat → Int32} {pkn_z : Int32} {pkf_z : Nat → Int32} (C : Fx p s m args meth c cd_FW_addRow 9 R_FW lw_g (some .boolean)) (hK : va_K (dC, dI) vwCl [(cB, .byte), (cI, .int), (cJ, .long)] s) (hA : ∀ q, s.heap.size ≤ q → A q) (x1 : Int32) (x2 : Int32) (x3 : Int32) (x4 : Int32) (gn : Int32) (gf : Nat → Int32) (tn : Int32) (tf : Nat → Int32) (mc : Int32) (ms : Int32) (ml : Int32) (dn : Int32) (df : Nat → Int32) (laf : Nat → Int32) (eaf : Nat → Int32) (hsn : Int32) (pkn : Int32) (pkf : Nat → Int32)  (hf : j_FW_addRow_0 N x1 x2 x3 x4 gn gf tn tf mc ms ml dn df laf eaf hsn pkn pkf  = some (r_z, tn_z, tf_z, mc_z, ms_z, ml_z, dn_z, df_z, laf_z, eaf_z, pkn_z, pkf_z)) (hP : va_P (dC, dI) vwCl (wd_FW_addRow fw g ga t ta bw mt d da la ea hs pk pka hsa cB cI cJ gn gf tn tf mc ms ml dn df laf eaf hsn pkn pkf) H) (hD : va_D A (wd_FW_addRow fw g ga t ta bw mt d da la ea hs pk pka hsa cB cI cJ gn gf tn tf mc ms ml dn df laf eaf hsn pkn pkf)) (hS : va_S A s.heap H locs) (hl : lv_has ls 9 [(0, .ref fw), (1, .int x1), (2, .int x2), (3, .int x3), (4, .int x4)]) : W p l e rm_FW_addRow s m args below meth c H locs 0 0 (MQ below (sQi (dC, dI) vwCl [(cB, .byte), (cI, .int), (cJ, .long)] A r_z (wd_FW_addRow fw g ga t ta bw mt d da la ea hs pk pka hsa cB cI cJ gn gf tn_z tf_z mc_z ms_z ml_z dn_z df_z laf_z eaf_z hsn pkn_z pkf_z)) args s 0 0 A) (F0 m 0 ls []) := by
  obtain ⟨hx, hb, hml, hown, hts, hr, hlocks, hZ⟩ := id C
  unfold j_FW_addRow_0 at hf
  refine lv_iload_n hx hb d_FW_addRow_0 rfl (lv_at hl 3 rfl) ?_
  refine lv_bipush (v := 32) hx hb d_FW_addRow_1 (by decide) ?_
  refine lv_iand hx hb d_FW_addRow_3 ?_
  refine lv_if_eq (tgt := 14) hx hb d_FW_addRow_4 (by decide) (fun c_4 => ?_) (fun c_4 => ?_)
  · have hf := br_pos c_4 hf
    exact k_FW_addRow_14 C hK hA x1 x2 x3 x4 gn gf tn tf mc ms ml dn df laf eaf hsn pkn pkf  hf hP hD hS (lv_sub hl [0, 1, 2, 3, 4] rfl)
  · have hf := br_neg c_4 hf
    refine lv_aload_n hx hb d_FW_addRow_7 rfl (lv_at hl 0 rfl) ?_
    refine va_get (D := (dC, dI)) (ci := 4) (v := .ref bw) (C := R_FW) (T := T_FW) (N := 4) hx hb hts w_166 hown hK hP 0 rfl rfl 2 (by decide) (hts _ w_188) (fun _ h9 => h9) rfl d_FW_addRow_8 ?_
    obtain ⟨mc_11, dn_11, laf_11, hc11, hf⟩ := bd3_some hf
    refine s_Vv (As := []) (rest := []) (wr := [(fw, .inr (4, [.ref g, .ref t, .ref bw, .ref pk])), (g, .inr (1, [.ref ga, .int gn])), (ga, .inl (cB, 8000, .inl gf)), (t, .inr (1, [.ref ta, .int tn])), (ta, .inl (cB, 8000, .inl tf)), (pk, .inr (1, [.ref pka, .int pkn])), (pka, .inl (cB, 8000, .inl pkf))]) (ws' := wd_FW_addRow fw g ga t ta bw mt d da la ea hs pk pka hsa cB cI cJ gn gf tn tf mc_11 ms ml dn_11 df laf_11 eaf hsn pkn pkf) C.call (c_BW_dropContent l dC dI cB cI cJ bw mt d da la ea hs hsa  mc ms ml dn df laf eaf hsn  hc11) (cwV 0 hts (gd_V w_192 w_193 w_194 w_46 w_195) rfl rfl rfl ⟨rfl, hd_BW_dropContent⟩ ⟨Nat.le_of_ble_eq_true rfl, Nat.le_of_ble_eq_true rfl⟩) rfl hl.1 rfl (Nat.le_of_ble_eq_true rfl) d_FW_addRow_11 ⟨Nat.le_of_ble_eq_true rfl, Nat.le_of_ble_eq_true rfl⟩ hZ hK hP hD hS hA 2 5 rfl rfl [5, 6, 7, 8, 9, 10, 11] [0, 1, 2, 3, 4, 12, 13] [0, 1, 2, 3, 4, 7, 8, 9, 10, 11, 12, 13, 5, 6] rfl rfl rfl rfl (by decide) rfl rfl (fun H locs hP hD hS => ?_)
    exact k_FW_addRow_14 C hK hA x1 x2 x3 x4 gn gf tn tf mc_11 ms ml dn_11 df laf_11 eaf hsn pkn pkf  hf hP hD hS (lv_sub hl [0, 1, 2, 3, 4] rfl)
end
noncomputable abbrev f_FW_addRow (N : Nat) (x1 : Int32) (x2 : Int32) (x3 : Int32) (x4 : Int32) (gn : Int32) (gf : Nat → Int32) (tn : Int32) (tf : Nat → Int32) (mc : Int32) (ms : Int32) (ml : Int32) (dn : Int32) (df : Nat → Int32) (laf : Nat → Int32) (eaf : Nat → Int32) (hsn : Int32) (pkn : Int32) (pkf : Nat → Int32) : Option (Int32 × Int32 × (Nat → Int32) × Int32 × Int32 × Int32 × Int32 × (Nat → Int32) × (Nat → Int32) × (Nat → Int32) × Int32 × (Nat → Int32)) := j_FW_addRow_0 N x1 x2 x3 x4 gn gf tn tf mc ms ml dn df laf eaf hsn pkn pkf
set_option maxRecDepth 100000 in
theorem c_FW_addRow {N : Nat} (l : Launch) (dC : Nat → ClassId) (dI : Nat → Nat → Nat) (cB cI cJ : ClassId) (fw g ga t ta bw mt d da la ea hs pk pka hsa : Nat) (gn : Int32) (gf : Nat → Int32) (tn : Int32) (tf : Nat → Int32) (mc : Int32) (ms : Int32) (ml : Int32) (dn : Int32) (df : Nat → Int32) (laf : Nat → Int32) (eaf : Nat → Int32) (hsn : Int32) (pkn : Int32) (pkf : Nat → Int32) (x1 : Int32) (x2 : Int32) (x3 : Int32) (x4 : Int32) {r_z : Int32} {tn_z : Int32} {tf_z : Nat → Int32} {mc_z : Int32} {ms_z : Int32} {ml_z : Int32} {dn_z : Int32} {df_z : Nat → Int32} {laf_z : Nat → Int32} {eaf_z : Nat → Int32} {pkn_z : Int32} {pkf_z : Nat → Int32} (hf : f_FW_addRow N x1 x2 x3 x4 gn gf tn tf mc ms ml dn df laf eaf hsn pkn pkf = some (r_z, tn_z, tf_z, mc_z, ms_z, ml_z, dn_z, df_z, laf_z, eaf_z, pkn_z, pkf_z)) : MetI l y_FW_addRow ws_FW_addRow rm_FW_addRow (dC, dI) vwCl [(cB, .byte), (cI, .int), (cJ, .long)] [.ref fw, .int x1, .int x2, .int x3, .int x4] (wd_FW_addRow fw g ga t ta bw mt d da la ea hs pk pka hsa cB cI cJ gn gf tn tf mc ms ml dn df laf eaf hsn pkn pkf) r_z (wd_FW_addRow fw g ga t ta bw mt d da la ea hs pk pka hsa cB cI cJ gn gf tn_z tf_z mc_z ms_z ml_z dn_z df_z laf_z eaf_z hsn pkn_z pkf_z) 0 0 :=
  s_ofi (bytes := cd_FW_addRow) (maxL := 9) (ret := (some .boolean)) (by decide) rfl (Nat.le_of_ble_eq_true rfl) (fun p e s m below meth c A ls C hK hA hP hD hS hl => k_FW_addRow_0 C hK hA x1 x2 x3 x4 gn gf tn tf mc ms ml dn df laf eaf hsn pkn pkf hf hP hD hS (lv_sub hl [0, 1, 2, 3, 4] rfl))
