abbrev wd_BR_read (br g ga hs hsa t ta : Nat) (cB cI cJ : ClassId) (b_at : Int32) (b_end : Int32) (b_start : Int32) (b_most : Int32) (b_dist : Int32) (b_place : Int32) (gn : Int32) (gf : Nat → Int32) (hsn : Int32) (hsf : Nat → Int32) (tn : Int32) (tf : Nat → Int32) : va_W := [(br, .inr (5, [.ref g, .ref hs, .ref t, .int b_at, .int b_end, .int b_start, .int b_most, .int b_dist, .int b_place])), (g, .inr (1, [.ref ga, .int gn])), (ga, .inl (cB, 8000, .inl gf)), (hs, .inr (1, [.ref hsa, .int hsn])), (hsa, .inl (cB, 8000, .inl hsf)), (t, .inr (1, [.ref ta, .int tn])), (ta, .inl (cB, 8000, .inl tf))]
abbrev rm_BR_read : Room := { frames := 3, cells := 0, slots := 0, locals := 64 }
section
variable {p : Program} {l : Launch} {e : Env} {s : State} {m : MethodId} {args : Array Value} {below : List Frame} {meth : Method} {c : Code} {dC : Nat → ClassId} {dI : Nat → Nat → Nat} {A : Nat → Prop} {cB cI cJ : ClassId} {H : Heap} {locs : List Loc} {ls : Array Slot} {N : Nat} {br g ga hs hsa t ta : Nat}
noncomputable def j_BR_read_158 (x2 : Int32) (b_at : Int32) (b_end : Int32) (b_start : Int32) (b_most : Int32) (b_dist : Int32) (tn : Int32) (tf : Nat → Int32)  : Option (Int32 × Int32 × Int32 × Int32 × Int32 × Int32 × Int32 × Int32 × (Nat → Int32)) :=
  bd2 (f_BR_fault (1 : Int32) x2) (fun r161 b_place_161 => (some (r161, b_at, b_end, b_start, b_most, b_dist, b_place_161, tn, tf) : Option (Int32 × Int32 × Int32 × Int32 × Int32 × Int32 × Int32 × Int32 × (Nat → Int32))))
set_option maxHeartbeats 4000000 in
set_option maxRecDepth 100000 in
theorem k_BR_read_158 {r_z : Int32} {b_at_z : Int32} {b_end_z : Int32} {b_start_z : Int32} {b_most_z : Int32} {b_dist_z : Int32} {b_place_z : Int32} {tn_z : Int32} {tf_z : Nat → Int32} (C : Fx p s m args meth c cd_BR_read 9 R_BR lw_g (some .int)) (hK : va_K (dC, dI) vwCl [(cB, .byte), (cI, .int), (cJ, .long)] s) (hA : ∀ q, s.heap.size ≤ q → A q) (x2 : Int32) (b_at : Int32) (b_end : Int32) (b_start : Int32) (b_most : Int32) (b_dist : Int32) (b_place : Int32) (gn : Int32) (gf : Nat → Int32) (hsn : Int32) (hsf : Nat → Int32) (tn : Int32) (tf : Nat → Int32)  (hf : j_BR_read_158 x2 b_at b_end b_start b_most b_dist tn tf  = some (r_z, b_at_z, b_end_z, b_start_z, b_most_z, b_dist_z, b_place_z, tn_z, tf_z)) (hP : va_P (dC, dI) vwCl (wd_BR_read br g ga hs hsa t ta cB cI cJ b_at b_end b_start b_most b_dist b_place gn gf hsn hsf tn tf) H) (hD : va_D A (wd_BR_read br g ga hs hsa t ta cB cI cJ b_at b_end b_start b_most b_dist b_place gn gf hsn hsf tn tf)) (hS : va_S A s.heap H locs) (hl : lv_has ls 9 [(0, .ref br), (2, .int x2)]) : W p l e rm_BR_read s m args below meth c H locs 0 0 (MQ below (sQi (dC, dI) vwCl [(cB, .byte), (cI, .int), (cJ, .long)] A r_z (wd_BR_read br g ga hs hsa t ta cB cI cJ b_at_z b_end_z b_start_z b_most_z b_dist_z b_place_z gn gf hsn hsf tn_z tf_z)) args s 0 0 A) (F0 m 158 ls []) := by
  obtain ⟨hx, hb, hml, hown, hts, hr, hlocks, hZ⟩ := id C
  unfold j_BR_read_158 at hf
  refine lv_aload_n hx hb d_BR_read_158 rfl (lv_at hl 0 rfl) ?_
  refine lv_iconst (v := 1) hx hb d_BR_read_159 (by decide) ?_
  refine lv_iload_n hx hb d_BR_read_160 rfl (lv_at hl 1 rfl) ?_
  obtain ⟨r161, b_place_161, hc161, hf⟩ := bd2_some hf
  refine s_Vi (As := [.int (1 : Int32), .int x2]) (rest := []) (wr := [(g, .inr (1, [.ref ga, .int gn])), (ga, .inl (cB, 8000, .inl gf)), (hs, .inr (1, [.ref hsa, .int hsn])), (hsa, .inl (cB, 8000, .inl hsf)), (t, .inr (1, [.ref ta, .int tn])), (ta, .inl (cB, 8000, .inl tf))]) (ws' := wd_BR_read br g ga hs hsa t ta cB cI cJ b_at b_end b_start b_most b_dist b_place_161 gn gf hsn hsf tn tf) C.call (c_BR_fault l dC dI cB cI cJ br g hs t  b_at b_end b_start b_most b_dist b_place (1 : Int32) x2 hc161) (cwV 2 hts (gd_V w_239 w_240 w_241 w_242 w_243) rfl rfl rfl ⟨rfl, hd_BR_fault⟩ ⟨Nat.le_of_ble_eq_true rfl, Nat.le_of_ble_eq_true rfl⟩) rfl hl.1 rfl (Nat.le_of_ble_eq_true rfl) d_BR_read_161 ⟨Nat.le_of_ble_eq_true rfl, Nat.le_of_ble_eq_true rfl⟩ hZ hK hP hD hS hA 5 0 rfl rfl [0] [1, 2, 3, 4, 5, 6] [6, 0, 1, 2, 3, 4, 5] rfl rfl rfl rfl (by decide) rfl rfl (fun H locs hP hD hS => ?_)
  cases hf
  exact s_iret hx hb hr hlocks hP hK hD hS d_BR_read_164
noncomputable def j_BR_read_142 (x5 : Int32) (t0 : Int32) (b_at : Int32) (b_end : Int32) (b_start : Int32) (b_most : Int32) (b_dist : Int32) (b_place : Int32) (tn : Int32) (tf : Nat → Int32) (kh24 : Int32 → Int32 → Int32 → Int32 → Int32 → (Nat → Int32) → Option (Int32 × Int32 × Int32 × Int32 × Int32 × Int32 × Int32 × Int32 × (Nat → Int32))) : Option (Int32 × Int32 × Int32 × Int32 × Int32 × Int32 × Int32 × Int32 × (Nat → Int32)) :=
  (if t0 = 0 then (kh24 (x5 + 1) b_at b_dist b_place tn tf) else (some (t0, b_at, b_end, b_start, b_most, b_dist, b_place, tn, tf) : Option (Int32 × Int32 × Int32 × Int32 × Int32 × Int32 × Int32 × Int32 × (Nat → Int32))))
set_option maxHeartbeats 4000000 in
set_option maxRecDepth 100000 in
theorem k_BR_read_142 {r_z : Int32} {b_at_z : Int32} {b_end_z : Int32} {b_start_z : Int32} {b_most_z : Int32} {b_dist_z : Int32} {b_place_z : Int32} {tn_z : Int32} {tf_z : Nat → Int32} (C : Fx p s m args meth c cd_BR_read 9 R_BR lw_g (some .int)) (hK : va_K (dC, dI) vwCl [(cB, .byte), (cI, .int), (cJ, .long)] s) (hA : ∀ q, s.heap.size ≤ q → A q) (x2 : Int32) (x5 : Int32) (t0 : Int32) (b_at : Int32) (b_end : Int32) (b_start : Int32) (b_most : Int32) (b_dist : Int32) (b_place : Int32) (gn : Int32) (gf : Nat → Int32) (hsn : Int32) (hsf : Nat → Int32) (tn : Int32) (tf : Nat → Int32) (kh24 : Int32 → Int32 → Int32 → Int32 → Int32 → (Nat → Int32) → Option (Int32 × Int32 × Int32 × Int32 × Int32 × Int32 × Int32 × Int32 × (Nat → Int32))) (ih24 : ∀ (x5 : Int32) (b_at : Int32) (b_dist : Int32) (b_place : Int32) (tn : Int32) (tf : Nat → Int32), kh24 x5 b_at b_dist b_place tn tf = some (r_z, b_at_z, b_end_z, b_start_z, b_most_z, b_dist_z, b_place_z, tn_z, tf_z) → ∀ (H : Heap) (locs : List Loc), va_P (dC, dI) vwCl (wd_BR_read br g ga hs hsa t ta cB cI cJ b_at b_end b_start b_most b_dist b_place gn gf hsn hsf tn tf) H → va_D A (wd_BR_read br g ga hs hsa t ta cB cI cJ b_at b_end b_start b_most b_dist b_place gn gf hsn hsf tn tf) → va_S A s.heap H locs → ∀ (ls : Array Slot), lv_has ls 9 [(0, .ref br), (2, .int x2), (5, .int x5)] → W p l e rm_BR_read s m args below meth c H locs 0 0 (MQ below (sQi (dC, dI) vwCl [(cB, .byte), (cI, .int), (cJ, .long)] A r_z (wd_BR_read br g ga hs hsa t ta cB cI cJ b_at_z b_end_z b_start_z b_most_z b_dist_z b_place_z gn gf hsn hsf tn_z tf_z)) args s 0 0 A) (F0 m 24 ls [])) (hf : j_BR_read_142 x5 t0 b_at b_end b_start b_most b_dist b_place tn tf kh24 = some (r_z, b_at_z, b_end_z, b_start_z, b_most_z, b_dist_z, b_place_z, tn_z, tf_z)) (hP : va_P (dC, dI) vwCl (wd_BR_read br g ga hs hsa t ta cB cI cJ b_at b_end b_start b_most b_dist b_place gn gf hsn hsf tn tf) H) (hD : va_D A (wd_BR_read br g ga hs hsa t ta cB cI cJ b_at b_end b_start b_most b_dist b_place gn gf hsn hsf tn tf)) (hS : va_S A s.heap H locs) (hl : lv_has ls 9 [(0, .ref br), (2, .int x2), (5, .int x5)]) : W p l e rm_BR_read s m args below meth c H locs 0 0 (MQ below (sQi (dC, dI) vwCl [(cB, .byte), (cI, .int), (cJ, .long)] A r_z (wd_BR_read br g ga hs hsa t ta cB cI cJ b_at_z b_end_z b_start_z b_most_z b_dist_z b_place_z gn gf hsn hsf tn_z tf_z)) args s 0 0 A) (F0 m 142 ls [.int t0]) := by
  obtain ⟨hx, hb, hml, hown, hts, hr, hlocks, hZ⟩ := id C
  unfold j_BR_read_142 at hf
  refine lv_istore (lv' := [(7, .int t0), (0, .ref br), (2, .int x2), (5, .int x5)]) hx hb d_BR_read_142 hl (by decide) rfl (fun ls hl => ?_)
  refine lv_iload hx hb d_BR_read_144 (lv_at hl 0 rfl) ?_
  refine lv_if_eq (tgt := 152) hx hb d_BR_read_146 (by decide) (fun c_146 => ?_) (fun c_146 => ?_)
  · have hf := br_pos c_146 hf
    refine lv_iinc (v := (x5 + 1)) (lv' := [(5, .int (x5 + 1)), (7, .int t0), (0, .ref br), (2, .int x2)]) hx hb d_BR_read_152 hl (k := 3) rfl (congrArg (fun z => x5 + z) (by decide)) (by decide) rfl (fun ls hl => ?_)
    refine lv_goto (tgt := 24) hx hb d_BR_read_155 (by decide) ?_
    exact ih24 (x5 + 1) b_at b_dist b_place tn tf hf _ _ hP hD hS _ (lv_sub hl [2, 3, 0] rfl)
  · have hf := br_neg c_146 hf
    refine lv_iload hx hb d_BR_read_149 (lv_at hl 0 rfl) ?_
    cases hf
    exact s_iret hx hb hr hlocks hP hK hD hS d_BR_read_151
noncomputable def j_BR_read_115 (N : Nat) (x5 : Int32) (x6 : Int32) (x8 : Int32) (t0 : Int32) (b_at : Int32) (b_end : Int32) (b_start : Int32) (b_most : Int32) (b_dist : Int32) (b_place : Int32) (gn : Int32) (gf : Nat → Int32) (hsn : Int32) (hsf : Nat → Int32) (tn : Int32) (tf : Nat → Int32) (kh24 : Int32 → Int32 → Int32 → Int32 → Int32 → (Nat → Int32) → Option (Int32 × Int32 × Int32 × Int32 × Int32 × Int32 × Int32 × Int32 × (Nat → Int32))) : Option (Int32 × Int32 × Int32 × Int32 × Int32 × Int32 × Int32 × Int32 × (Nat → Int32)) :=
  (if t0 = 0 then bd2 (f_BR_grown N (x6 &&& (15 : Int32)) b_at b_end gn gf) (fun r134 b_at_134 => bd4 (f_BR_takeCopy N r134 x8 b_end b_start b_most b_dist b_place hsn hsf tn tf) (fun r139 b_place_139 tn_139 tf_139 => (j_BR_read_142 x5 r139 b_at_134 b_end b_start b_most b_dist b_place_139 tn_139 tf_139 kh24))) else (j_BR_read_142 x5 t0 b_at b_end b_start b_most b_dist b_place tn tf kh24))
set_option maxHeartbeats 4000000 in
set_option maxRecDepth 100000 in
theorem k_BR_read_115 {r_z : Int32} {b_at_z : Int32} {b_end_z : Int32} {b_start_z : Int32} {b_most_z : Int32} {b_dist_z : Int32} {b_place_z : Int32} {tn_z : Int32} {tf_z : Nat → Int32} (C : Fx p s m args meth c cd_BR_read 9 R_BR lw_g (some .int)) (hK : va_K (dC, dI) vwCl [(cB, .byte), (cI, .int), (cJ, .long)] s) (hA : ∀ q, s.heap.size ≤ q → A q) (x2 : Int32) (x5 : Int32) (x6 : Int32) (x8 : Int32) (t0 : Int32) (b_at : Int32) (b_end : Int32) (b_start : Int32) (b_most : Int32) (b_dist : Int32) (b_place : Int32) (gn : Int32) (gf : Nat → Int32) (hsn : Int32) (hsf : Nat → Int32) (tn : Int32) (tf : Nat → Int32) (kh24 : Int32 → Int32 → Int32 → Int32 → Int32 → (Nat → Int32) → Option (Int32 × Int32 × Int32 × Int32 × Int32 × Int32 × Int32 × Int32 × (Nat → Int32))) (ih24 : ∀ (x5 : Int32) (b_at : Int32) (b_dist : Int32) (b_place : Int32) (tn : Int32) (tf : Nat → Int32), kh24 x5 b_at b_dist b_place tn tf = some (r_z, b_at_z, b_end_z, b_start_z, b_most_z, b_dist_z, b_place_z, tn_z, tf_z) → ∀ (H : Heap) (locs : List Loc), va_P (dC, dI) vwCl (wd_BR_read br g ga hs hsa t ta cB cI cJ b_at b_end b_start b_most b_dist b_place gn gf hsn hsf tn tf) H → va_D A (wd_BR_read br g ga hs hsa t ta cB cI cJ b_at b_end b_start b_most b_dist b_place gn gf hsn hsf tn tf) → va_S A s.heap H locs → ∀ (ls : Array Slot), lv_has ls 9 [(0, .ref br), (2, .int x2), (5, .int x5)] → W p l e rm_BR_read s m args below meth c H locs 0 0 (MQ below (sQi (dC, dI) vwCl [(cB, .byte), (cI, .int), (cJ, .long)] A r_z (wd_BR_read br g ga hs hsa t ta cB cI cJ b_at_z b_end_z b_start_z b_most_z b_dist_z b_place_z gn gf hsn hsf tn_z tf_z)) args s 0 0 A) (F0 m 24 ls [])) (hf : j_BR_read_115 N x5 x6 x8 t0 b_at b_end b_start b_most b_dist b_place gn gf hsn hsf tn tf kh24 = some (r_z, b_at_z, b_end_z, b_start_z, b_most_z, b_dist_z, b_place_z, tn_z, tf_z)) (hP : va_P (dC, dI) vwCl (wd_BR_read br g ga hs hsa t ta cB cI cJ b_at b_end b_start b_most b_dist b_place gn gf hsn hsf tn tf) H) (hD : va_D A (wd_BR_read br g ga hs hsa t ta cB cI cJ b_at b_end b_start b_most b_dist b_place gn gf hsn hsf tn tf)) (hS : va_S A s.heap H locs) (hl : lv_has ls 9 [(0, .ref br), (2, .int x2), (5, .int x5), (6, .int x6), (8, .int x8)]) : W p l e rm_BR_read s m args below meth c H locs 0 0 (MQ below (sQi (dC, dI) vwCl [(cB, .byte), (cI, .int), (cJ, .long)] A r_z (wd_BR_read br g ga hs hsa t ta cB cI cJ b_at_z b_end_z b_start_z b_most_z b_dist_z b_place_z gn gf hsn hsf tn_z tf_z)) args s 0 0 A) (F0 m 115 ls [.int t0]) := by
  obtain ⟨hx, hb, hml, hown, hts, hr, hlocks, hZ⟩ := id C
  unfold j_BR_read_115 at hf
  refine lv_istore (lv' := [(7, .int t0), (0, .ref br), (2, .int x2), (5, .int x5), (6, .int x6), (8, .int x8)]) hx hb d_BR_read_115 hl (by decide) rfl (fun ls hl => ?_)
  refine lv_iload hx hb d_BR_read_117 (lv_at hl 0 rfl) ?_
  refine lv_if_eq (tgt := 127) hx hb d_BR_read_119 (by decide) (fun c_119 => ?_) (fun c_119 => ?_)
  · have hf := br_pos c_119 hf
    refine lv_aload_n hx hb d_BR_read_127 rfl (lv_at hl 1 rfl) ?_
    refine lv_aload_n hx hb d_BR_read_128 rfl (lv_at hl 1 rfl) ?_
    refine lv_iload hx hb d_BR_read_129 (lv_at hl 4 rfl) ?_
    refine lv_bipush (v := 15) hx hb d_BR_read_131 (by decide) ?_
    refine lv_iand hx hb d_BR_read_133 ?_
    obtain ⟨r134, b_at_134, hc134, hf⟩ := bd2_some hf
    refine s_Vi (As := [.int (x6 &&& (15 : Int32))]) (rest := [.ref br]) (wr := [(hs, .inr (1, [.ref hsa, .int hsn])), (hsa, .inl (cB, 8000, .inl hsf)), (t, .inr (1, [.ref ta, .int tn])), (ta, .inl (cB, 8000, .inl tf))]) (ws' := wd_BR_read br g ga hs hsa t ta cB cI cJ b_at_134 b_end b_start b_most b_dist b_place gn gf hsn hsf tn tf) C.call (c_BR_grown l dC dI cB cI cJ br g ga hs t  b_at b_end b_start b_most b_dist b_place gn gf (x6 &&& (15 : Int32)) hc134) (cwV 1 hts (gd_V w_250 w_251 w_252 w_242 w_253) rfl rfl rfl ⟨rfl, hd_BR_grown⟩ ⟨Nat.le_of_ble_eq_true rfl, Nat.le_of_ble_eq_true rfl⟩) rfl hl.1 rfl (Nat.le_of_ble_eq_true rfl) d_BR_read_134 ⟨Nat.le_of_ble_eq_true rfl, Nat.le_of_ble_eq_true rfl⟩ hZ hK hP hD hS hA 5 0 rfl rfl [0, 1, 2] [3, 4, 5, 6] [4, 5, 6, 0, 1, 2, 3] rfl rfl rfl rfl (by decide) rfl rfl (fun H locs hP hD hS => ?_)
    refine lv_iload hx hb d_BR_read_137 (lv_at hl 5 rfl) ?_
    obtain ⟨r139, b_place_139, tn_139, tf_139, hc139, hf⟩ := bd4_some hf
    refine s_Vi (As := [.int r134, .int x8]) (rest := []) (wr := [(g, .inr (1, [.ref ga, .int gn])), (ga, .inl (cB, 8000, .inl gf))]) (ws' := wd_BR_read br g ga hs hsa t ta cB cI cJ b_at_134 b_end b_start b_most b_dist b_place_139 gn gf hsn hsf tn_139 tf_139) C.call (c_BR_takeCopy l dC dI cB cI cJ br hs hsa t ta g  b_at_134 b_end b_start b_most b_dist b_place hsn hsf tn tf r134 x8 hc139) (cwV 2 hts (gd_V w_262 w_263 w_264 w_242 w_265) rfl rfl rfl ⟨rfl, hd_BR_takeCopy⟩ ⟨Nat.le_of_ble_eq_true rfl, Nat.le_of_ble_eq_true rfl⟩) rfl hl.1 rfl (Nat.le_of_ble_eq_true rfl) d_BR_read_139 ⟨Nat.le_of_ble_eq_true rfl, Nat.le_of_ble_eq_true rfl⟩ hZ hK hP hD hS hA 5 0 rfl rfl [0, 3, 4, 5, 6] [1, 2] [2, 0, 1, 3, 4, 5, 6] rfl rfl rfl rfl (by decide) rfl rfl (fun H locs hP hD hS => ?_)
    exact k_BR_read_142 C hK hA x2 x5 r139 b_at_134 b_end b_start b_most b_dist b_place_139 gn gf hsn hsf tn_139 tf_139 kh24 ih24 hf hP hD hS (lv_sub hl [1, 2, 3] rfl)
  · have hf := br_neg c_119 hf
    refine lv_iload hx hb d_BR_read_122 (lv_at hl 0 rfl) ?_
    refine lv_goto (tgt := 142) hx hb d_BR_read_124 (by decide) ?_
    exact k_BR_read_142 C hK hA x2 x5 t0 b_at b_end b_start b_most b_dist b_place gn gf hsn hsf tn tf kh24 ih24 hf hP hD hS (lv_sub hl [1, 2, 3] rfl)
noncomputable def j_BR_read_95 (N : Nat) (x5 : Int32) (x6 : Int32) (x7 : Int32) (b_at : Int32) (b_end : Int32) (b_start : Int32) (b_most : Int32) (b_dist : Int32) (b_place : Int32) (gn : Int32) (gf : Nat → Int32) (hsn : Int32) (hsf : Nat → Int32) (tn : Int32) (tf : Nat → Int32) (kh24 : Int32 → Int32 → Int32 → Int32 → Int32 → (Nat → Int32) → Option (Int32 × Int32 × Int32 × Int32 × Int32 × Int32 × Int32 × Int32 × (Nat → Int32))) : Option (Int32 × Int32 × Int32 × Int32 × Int32 × Int32 × Int32 × Int32 × (Nat → Int32)) :=
  (if x7 = 0 then bd4 (f_BR_takeDistance b_at b_end b_start b_dist b_place gn gf hsn tn) (fun r112 b_at_112 b_dist_112 b_place_112 => (j_BR_read_115 N x5 x6 b_at r112 b_at_112 b_end b_start b_most b_dist_112 b_place_112 gn gf hsn hsf tn tf kh24)) else (j_BR_read_115 N x5 x6 b_at x7 b_at b_end b_start b_most b_dist b_place gn gf hsn hsf tn tf kh24))
set_option maxHeartbeats 4000000 in
set_option maxRecDepth 100000 in
theorem k_BR_read_95 {r_z : Int32} {b_at_z : Int32} {b_end_z : Int32} {b_start_z : Int32} {b_most_z : Int32} {b_dist_z : Int32} {b_place_z : Int32} {tn_z : Int32} {tf_z : Nat → Int32} (C : Fx p s m args meth c cd_BR_read 9 R_BR lw_g (some .int)) (hK : va_K (dC, dI) vwCl [(cB, .byte), (cI, .int), (cJ, .long)] s) (hA : ∀ q, s.heap.size ≤ q → A q) (x2 : Int32) (x5 : Int32) (x6 : Int32) (x7 : Int32) (b_at : Int32) (b_end : Int32) (b_start : Int32) (b_most : Int32) (b_dist : Int32) (b_place : Int32) (gn : Int32) (gf : Nat → Int32) (hsn : Int32) (hsf : Nat → Int32) (tn : Int32) (tf : Nat → Int32) (kh24 : Int32 → Int32 → Int32 → Int32 → Int32 → (Nat → Int32) → Option (Int32 × Int32 × Int32 × Int32 × Int32 × Int32 × Int32 × Int32 × (Nat → Int32))) (ih24 : ∀ (x5 : Int32) (b_at : Int32) (b_dist : Int32) (b_place : Int32) (tn : Int32) (tf : Nat → Int32), kh24 x5 b_at b_dist b_place tn tf = some (r_z, b_at_z, b_end_z, b_start_z, b_most_z, b_dist_z, b_place_z, tn_z, tf_z) → ∀ (H : Heap) (locs : List Loc), va_P (dC, dI) vwCl (wd_BR_read br g ga hs hsa t ta cB cI cJ b_at b_end b_start b_most b_dist b_place gn gf hsn hsf tn tf) H → va_D A (wd_BR_read br g ga hs hsa t ta cB cI cJ b_at b_end b_start b_most b_dist b_place gn gf hsn hsf tn tf) → va_S A s.heap H locs → ∀ (ls : Array Slot), lv_has ls 9 [(0, .ref br), (2, .int x2), (5, .int x5)] → W p l e rm_BR_read s m args below meth c H locs 0 0 (MQ below (sQi (dC, dI) vwCl [(cB, .byte), (cI, .int), (cJ, .long)] A r_z (wd_BR_read br g ga hs hsa t ta cB cI cJ b_at_z b_end_z b_start_z b_most_z b_dist_z b_place_z gn gf hsn hsf tn_z tf_z)) args s 0 0 A) (F0 m 24 ls [])) (hf : j_BR_read_95 N x5 x6 x7 b_at b_end b_start b_most b_dist b_place gn gf hsn hsf tn tf kh24 = some (r_z, b_at_z, b_end_z, b_start_z, b_most_z, b_dist_z, b_place_z, tn_z, tf_z)) (hP : va_P (dC, dI) vwCl (wd_BR_read br g ga hs hsa t ta cB cI cJ b_at b_end b_start b_most b_dist b_place gn gf hsn hsf tn tf) H) (hD : va_D A (wd_BR_read br g ga hs hsa t ta cB cI cJ b_at b_end b_start b_most b_dist b_place gn gf hsn hsf tn tf)) (hS : va_S A s.heap H locs) (hl : lv_has ls 9 [(0, .ref br), (2, .int x2), (5, .int x5), (6, .int x6), (7, .int x7)]) : W p l e rm_BR_read s m args below meth c H locs 0 0 (MQ below (sQi (dC, dI) vwCl [(cB, .byte), (cI, .int), (cJ, .long)] A r_z (wd_BR_read br g ga hs hsa t ta cB cI cJ b_at_z b_end_z b_start_z b_most_z b_dist_z b_place_z gn gf hsn hsf tn_z tf_z)) args s 0 0 A) (F0 m 95 ls []) := by
  obtain ⟨hx, hb, hml, hown, hts, hr, hlocks, hZ⟩ := id C
  unfold j_BR_read_95 at hf
  refine lv_aload_n hx hb d_BR_read_95 rfl (lv_at hl 0 rfl) ?_
  refine va_get (D := (dC, dI)) (ci := 5) (v := .int b_at) (C := R_BR) (T := T_BR) (N := 9) hx hb hts w_226 hown hK hP 0 rfl rfl 3 (by decide) (hts _ w_228) (fun _ h9 => h9) rfl d_BR_read_96 ?_
  refine lv_istore (lv' := [(8, .int b_at), (0, .ref br), (2, .int x2), (5, .int x5), (6, .int x6), (7, .int x7)]) hx hb d_BR_read_99 hl (by decide) rfl (fun ls hl => ?_)
  refine lv_iload hx hb d_BR_read_101 (lv_at hl 5 rfl) ?_
  refine lv_if_eq (tgt := 111) hx hb d_BR_read_103 (by decide) (fun c_103 => ?_) (fun c_103 => ?_)
  · have hf := br_pos c_103 hf
    refine lv_aload_n hx hb d_BR_read_111 rfl (lv_at hl 1 rfl) ?_
    obtain ⟨r112, b_at_112, b_dist_112, b_place_112, hc112, hf⟩ := bd4_some hf
    refine s_Vi (As := []) (rest := []) (wr := [(hsa, .inl (cB, 8000, .inl hsf)), (ta, .inl (cB, 8000, .inl tf))]) (ws' := wd_BR_read br g ga hs hsa t ta cB cI cJ b_at_112 b_end b_start b_most b_dist_112 b_place_112 gn gf hsn hsf tn tf) C.call (c_BR_takeDistance l dC dI cB cI cJ br g ga hs t hsa ta  b_at b_end b_start b_most b_dist b_place gn gf hsn tn  hc112) (cwV 0 hts (gd_V w_258 w_259 w_260 w_242 w_261) rfl rfl rfl ⟨rfl, hd_BR_takeDistance⟩ ⟨Nat.le_of_ble_eq_true rfl, Nat.le_of_ble_eq_true rfl⟩) rfl hl.1 rfl (Nat.le_of_ble_eq_true rfl) d_BR_read_112 ⟨Nat.le_of_ble_eq_true rfl, Nat.le_of_ble_eq_true rfl⟩ hZ hK hP hD hS hA 5 0 rfl rfl [0, 1, 2, 3, 5] [4, 6] [2, 3, 4, 5, 0, 6, 1] rfl rfl rfl rfl (by decide) rfl rfl (fun H locs hP hD hS => ?_)
    exact k_BR_read_115 C hK hA x2 x5 x6 b_at r112 b_at_112 b_end b_start b_most b_dist_112 b_place_112 gn gf hsn hsf tn tf kh24 ih24 hf hP hD hS (lv_sub hl [1, 2, 3, 4, 0] rfl)
  · have hf := br_neg c_103 hf
    refine lv_iload hx hb d_BR_read_106 (lv_at hl 5 rfl) ?_
    refine lv_goto (tgt := 115) hx hb d_BR_read_108 (by decide) ?_
    exact k_BR_read_115 C hK hA x2 x5 x6 b_at x7 b_at b_end b_start b_most b_dist b_place gn gf hsn hsf tn tf kh24 ih24 hf hP hD hS (lv_sub hl [1, 2, 3, 4, 0] rfl)
noncomputable def b_BR_read_24 (N : Nat) (x2 : Int32) (b_end : Int32) (b_start : Int32) (b_most : Int32) (gn : Int32) (gf : Nat → Int32) (hsn : Int32) (hsf : Nat → Int32)  (kh24 : Int32 → Int32 → Int32 → Int32 → Int32 → (Nat → Int32) → Option (Int32 × Int32 × Int32 × Int32 × Int32 × Int32 × Int32 × Int32 × (Nat → Int32))) (x5 : Int32) (b_at : Int32) (b_dist : Int32) (b_place : Int32) (tn : Int32) (tf : Nat → Int32) : Option (Int32 × Int32 × Int32 × Int32 × Int32 × Int32 × Int32 × Int32 × (Nat → Int32)) :=
  (if x2 ≤ x5 then (j_BR_read_158 x2 b_at b_end b_start b_most b_dist tn tf ) else (if x2 ≤ b_at then (j_BR_read_158 x2 b_at b_end b_start b_most b_dist tn tf ) else bd1 (f_Row_get 8000 b_at gn gf) (fun r46 => bd2 (f_BR_grown N (r46 >>> ((4 : Int32) &&& 31)) (b_at + (1 : Int32)) b_end gn gf) (fun r67 b_at_67 => bd5 (f_BR_takeLiterals r67 b_at_67 b_end b_most b_place gn gf tn tf) (fun r70 b_at_70 b_place_70 tn_70 tf_70 => (if r70 = 0 then (if b_at_70 < x2 then (j_BR_read_95 N x5 r46 r70 b_at_70 b_end b_start b_most b_dist b_place_70 gn gf hsn hsf tn_70 tf_70 kh24) else (some ((0 : Int32), b_at_70, b_end, b_start, b_most, b_dist, x2, tn_70, tf_70) : Option (Int32 × Int32 × Int32 × Int32 × Int32 × Int32 × Int32 × Int32 × (Nat → Int32)))) else (j_BR_read_95 N x5 r46 r70 b_at_70 b_end b_start b_most b_dist b_place_70 gn gf hsn hsf tn_70 tf_70 kh24)))))))
set_option maxHeartbeats 4000000 in
set_option maxRecDepth 100000 in
theorem k_BR_read_24 {r_z : Int32} {b_at_z : Int32} {b_end_z : Int32} {b_start_z : Int32} {b_most_z : Int32} {b_dist_z : Int32} {b_place_z : Int32} {tn_z : Int32} {tf_z : Nat → Int32} (C : Fx p s m args meth c cd_BR_read 9 R_BR lw_g (some .int)) (hK : va_K (dC, dI) vwCl [(cB, .byte), (cI, .int), (cJ, .long)] s) (hA : ∀ q, s.heap.size ≤ q → A q) (x2 : Int32) (b_end : Int32) (b_start : Int32) (b_most : Int32) (gn : Int32) (gf : Nat → Int32) (hsn : Int32) (hsf : Nat → Int32)  : ∀ (n : Nat) (x5 : Int32) (b_at : Int32) (b_dist : Int32) (b_place : Int32) (tn : Int32) (tf : Nat → Int32), loop6 (b_BR_read_24 N x2 b_end b_start b_most gn gf hsn hsf ) n x5 b_at b_dist b_place tn tf = some (r_z, b_at_z, b_end_z, b_start_z, b_most_z, b_dist_z, b_place_z, tn_z, tf_z) → ∀ (H : Heap) (locs : List Loc), va_P (dC, dI) vwCl (wd_BR_read br g ga hs hsa t ta cB cI cJ b_at b_end b_start b_most b_dist b_place gn gf hsn hsf tn tf) H → va_D A (wd_BR_read br g ga hs hsa t ta cB cI cJ b_at b_end b_start b_most b_dist b_place gn gf hsn hsf tn tf) → va_S A s.heap H locs → ∀ (ls : Array Slot), lv_has ls 9 [(0, .ref br), (2, .int x2), (5, .int x5)] → W p l e rm_BR_read s m args below meth c H locs 0 0 (MQ below (sQi (dC, dI) vwCl [(cB, .byte), (cI, .int), (cJ, .long)] A r_z (wd_BR_read br g ga hs hsa t ta cB cI cJ b_at_z b_end_z b_start_z b_most_z b_dist_z b_place_z gn gf hsn hsf tn_z tf_z)) args s 0 0 A) (F0 m 24 ls []) := by
  obtain ⟨hx, hb, hml, hown, hts, hr, hlocks, hZ⟩ := id C
  intro n
  induction n with
  | zero => intro x5 b_at b_dist b_place tn tf hf; cases hf
  | succ n ih24 =>
    intro x5 b_at b_dist b_place tn tf hf H locs hP hD hS ls hl
    have hf : b_BR_read_24 N x2 b_end b_start b_most gn gf hsn hsf  (loop6 (b_BR_read_24 N x2 b_end b_start b_most gn gf hsn hsf ) n) x5 b_at b_dist b_place tn tf = some (r_z, b_at_z, b_end_z, b_start_z, b_most_z, b_dist_z, b_place_z, tn_z, tf_z) := hf
    generalize loop6 (b_BR_read_24 N x2 b_end b_start b_most gn gf hsn hsf ) n = kh24 at hf ih24
    unfold b_BR_read_24 at hf
    refine lv_iload hx hb d_BR_read_24 (lv_at hl 2 rfl) ?_
    refine lv_iload_n hx hb d_BR_read_26 rfl (lv_at hl 1 rfl) ?_
    refine lv_icmp_ge (tgt := 158) hx hb d_BR_read_27 (by decide) (fun c_27 => ?_) (fun c_27 => ?_)
    · have hf := br_pos c_27 hf
      exact k_BR_read_158 C hK hA x2 b_at b_end b_start b_most b_dist b_place gn gf hsn hsf tn tf  hf hP hD hS (lv_sub hl [0, 1] rfl)
    · have hf := br_neg c_27 hf
      refine lv_aload_n hx hb d_BR_read_30 rfl (lv_at hl 0 rfl) ?_
      refine va_get (D := (dC, dI)) (ci := 5) (v := .int b_at) (C := R_BR) (T := T_BR) (N := 9) hx hb hts w_226 hown hK hP 0 rfl rfl 3 (by decide) (hts _ w_228) (fun _ h9 => h9) rfl d_BR_read_31 ?_
      refine lv_iload_n hx hb d_BR_read_34 rfl (lv_at hl 1 rfl) ?_
      refine lv_icmp_ge (tgt := 158) hx hb d_BR_read_35 (by decide) (fun c_35 => ?_) (fun c_35 => ?_)
      · have hf := br_pos c_35 hf
        exact k_BR_read_158 C hK hA x2 b_at b_end b_start b_most b_dist b_place gn gf hsn hsf tn tf  hf hP hD hS (lv_sub hl [0, 1] rfl)
      · have hf := br_neg c_35 hf
        refine lv_aload_n hx hb d_BR_read_38 rfl (lv_at hl 0 rfl) ?_
        refine va_get (D := (dC, dI)) (ci := 5) (v := .ref g) (C := R_BR) (T := T_BR) (N := 9) hx hb hts w_226 hown hK hP 0 rfl rfl 0 (by decide) (hts _ w_230) (fun _ h9 => h9) rfl d_BR_read_39 ?_
        refine lv_aload_n hx hb d_BR_read_42 rfl (lv_at hl 0 rfl) ?_
        refine va_get (D := (dC, dI)) (ci := 5) (v := .int b_at) (C := R_BR) (T := T_BR) (N := 9) hx hb hts w_226 hown hK hP 0 rfl rfl 3 (by decide) (hts _ w_228) (fun _ h9 => h9) rfl d_BR_read_43 ?_
        obtain ⟨r46, hc46, hf⟩ := bd1_some hf
        refine s_Vi (As := [.int b_at]) (rest := []) (wr := [(br, .inr (5, [.ref g, .ref hs, .ref t, .int b_at, .int b_end, .int b_start, .int b_most, .int b_dist, .int b_place])), (hs, .inr (1, [.ref hsa, .int hsn])), (hsa, .inl (cB, 8000, .inl hsf)), (t, .inr (1, [.ref ta, .int tn])), (ta, .inl (cB, 8000, .inl tf))]) (ws' := wd_BR_read br g ga hs hsa t ta cB cI cJ b_at b_end b_start b_most b_dist b_place gn gf hsn hsf tn tf) C.call (c_Row_get l dC dI cB cI cJ g ga 8000 gn gf b_at hc46) (cwV 1 hts (gd_V w_231 w_80 w_81 w_12 w_82) rfl rfl rfl ⟨rfl, hd_Row_get⟩ ⟨Nat.le_of_ble_eq_true rfl, Nat.le_of_ble_eq_true rfl⟩) rfl hl.1 rfl (Nat.le_of_ble_eq_true rfl) d_BR_read_46 ⟨Nat.le_of_ble_eq_true rfl, Nat.le_of_ble_eq_true rfl⟩ hZ hK hP hD hS hA 1 1 rfl rfl [1, 2] [0, 3, 4, 5, 6] [0, 5, 6, 1, 2, 3, 4] rfl rfl rfl rfl (by decide) rfl rfl (fun H locs hP hD hS => ?_)
        refine lv_istore (lv' := [(6, .int r46), (0, .ref br), (2, .int x2), (5, .int x5)]) hx hb d_BR_read_49 hl (by decide) rfl (fun ls hl => ?_)
        refine lv_aload_n hx hb d_BR_read_51 rfl (lv_at hl 1 rfl) ?_
        refine lv_dup hx hb d_BR_read_52 rfl ?_
        refine va_get (D := (dC, dI)) (ci := 5) (v := .int b_at) (C := R_BR) (T := T_BR) (N := 9) hx hb hts w_226 hown hK hP 0 rfl rfl 3 (by decide) (hts _ w_228) (fun _ h9 => h9) rfl d_BR_read_53 ?_
        refine lv_iconst (v := 1) hx hb d_BR_read_56 (by decide) ?_
        refine lv_iadd hx hb d_BR_read_57 ?_
        refine va_put (D := (dC, dI)) (ci := 5) (v := .int (b_at + (1 : Int32))) (ty := .int) (C := R_BR) (T := T_BR) (N := 9) hx hb hts w_226 ty_BR ty_BR_ok nm_BR hown hK hP hD hS 0 rfl rfl 3 (by decide) (hts _ w_228) (fun _ h9 => h9) rfl (by decide +kernel) rfl rfl (Nat.le_of_ble_eq_true rfl) d_BR_read_58 (fun H locs hP hD hS => ?_)
        have hP : va_P (dC, dI) vwCl (wd_BR_read br g ga hs hsa t ta cB cI cJ (b_at + (1 : Int32)) b_end b_start b_most b_dist b_place gn gf hsn hsf tn tf) H := hP
        have hD : va_D A (wd_BR_read br g ga hs hsa t ta cB cI cJ (b_at + (1 : Int32)) b_end b_start b_most b_dist b_place gn gf hsn hsf tn tf) := hD
        refine lv_aload_n hx hb d_BR_read_61 rfl (lv_at hl 1 rfl) ?_
        refine lv_aload_n hx hb d_BR_read_62 rfl (lv_at hl 1 rfl) ?_
        refine lv_iload hx hb d_BR_read_63 (lv_at hl 0 rfl) ?_
        refine lv_iconst (v := 4) hx hb d_BR_read_65 (by decide) ?_
        refine lv_ishr hx hb d_BR_read_66 ?_
        obtain ⟨r67, b_at_67, hc67, hf⟩ := bd2_some hf
        refine s_Vi (As := [.int (r46 >>> ((4 : Int32) &&& 31))]) (rest := [.ref br]) (wr := [(hs, .inr (1, [.ref hsa, .int hsn])), (hsa, .inl (cB, 8000, .inl hsf)), (t, .inr (1, [.ref ta, .int tn])), (ta, .inl (cB, 8000, .inl tf))]) (ws' := wd_BR_read br g ga hs hsa t ta cB cI cJ b_at_67 b_end b_start b_most b_dist b_place gn gf hsn hsf tn tf) C.call (c_BR_grown l dC dI cB cI cJ br g ga hs t  (b_at + (1 : Int32)) b_end b_start b_most b_dist b_place gn gf (r46 >>> ((4 : Int32) &&& 31)) hc67) (cwV 1 hts (gd_V w_250 w_251 w_252 w_242 w_253) rfl rfl rfl ⟨rfl, hd_BR_grown⟩ ⟨Nat.le_of_ble_eq_true rfl, Nat.le_of_ble_eq_true rfl⟩) rfl hl.1 rfl (Nat.le_of_ble_eq_true rfl) d_BR_read_67 ⟨Nat.le_of_ble_eq_true rfl, Nat.le_of_ble_eq_true rfl⟩ hZ hK hP hD hS hA 5 0 rfl rfl [0, 1, 2] [3, 4, 5, 6] [4, 5, 6, 0, 1, 2, 3] rfl rfl rfl rfl (by decide) rfl rfl (fun H locs hP hD hS => ?_)
        obtain ⟨r70, b_at_70, b_place_70, tn_70, tf_70, hc70, hf⟩ := bd5_some hf
        refine s_Vi (As := [.int r67]) (rest := []) (wr := [(hs, .inr (1, [.ref hsa, .int hsn])), (hsa, .inl (cB, 8000, .inl hsf))]) (ws' := wd_BR_read br g ga hs hsa t ta cB cI cJ b_at_70 b_end b_start b_most b_dist b_place_70 gn gf hsn hsf tn_70 tf_70) C.call (c_BR_takeLiterals l dC dI cB cI cJ br g ga t ta hs  b_at_67 b_end b_start b_most b_dist b_place gn gf tn tf r67 hc70) (cwV 1 hts (gd_V w_254 w_255 w_256 w_242 w_257) rfl rfl rfl ⟨rfl, hd_BR_takeLiterals⟩ ⟨Nat.le_of_ble_eq_true rfl, Nat.le_of_ble_eq_true rfl⟩) rfl hl.1 rfl (Nat.le_of_ble_eq_true rfl) d_BR_read_70 ⟨Nat.le_of_ble_eq_true rfl, Nat.le_of_ble_eq_true rfl⟩ hZ hK hP hD hS hA 5 0 rfl rfl [0, 1, 2, 5, 6] [3, 4] [2, 3, 4, 0, 1, 5, 6] rfl rfl rfl rfl (by decide) rfl rfl (fun H locs hP hD hS => ?_)
        refine lv_istore (lv' := [(7, .int r70), (6, .int r46), (0, .ref br), (2, .int x2), (5, .int x5)]) hx hb d_BR_read_73 hl (by decide) rfl (fun ls hl => ?_)
        refine lv_iload hx hb d_BR_read_75 (lv_at hl 0 rfl) ?_
        refine lv_if_ne (tgt := 95) hx hb d_BR_read_77 (by decide) (fun c_77 => ?_) (fun c_77 => ?_)
        · have hf := br_neg c_77 hf
          exact k_BR_read_95 C hK hA x2 x5 r46 r70 b_at_70 b_end b_start b_most b_dist b_place_70 gn gf hsn hsf tn_70 tf_70 kh24 ih24 hf hP hD hS (lv_sub hl [2, 3, 4, 1, 0] rfl)
        · have hf := br_pos c_77 hf
          refine lv_aload_n hx hb d_BR_read_80 rfl (lv_at hl 2 rfl) ?_
          refine va_get (D := (dC, dI)) (ci := 5) (v := .int b_at_70) (C := R_BR) (T := T_BR) (N := 9) hx hb hts w_226 hown hK hP 0 rfl rfl 3 (by decide) (hts _ w_228) (fun _ h9 => h9) rfl d_BR_read_81 ?_
          refine lv_iload_n hx hb d_BR_read_84 rfl (lv_at hl 3 rfl) ?_
          refine lv_icmp_lt (tgt := 95) hx hb d_BR_read_85 (by decide) (fun c_85 => ?_) (fun c_85 => ?_)
          · have hf := br_pos c_85 hf
            exact k_BR_read_95 C hK hA x2 x5 r46 r70 b_at_70 b_end b_start b_most b_dist b_place_70 gn gf hsn hsf tn_70 tf_70 kh24 ih24 hf hP hD hS (lv_sub hl [2, 3, 4, 1, 0] rfl)
          · have hf := br_neg c_85 hf
            refine lv_aload_n hx hb d_BR_read_88 rfl (lv_at hl 2 rfl) ?_
            refine lv_iload_n hx hb d_BR_read_89 rfl (lv_at hl 3 rfl) ?_
            refine va_put (D := (dC, dI)) (ci := 5) (v := .int x2) (ty := .int) (C := R_BR) (T := T_BR) (N := 9) hx hb hts w_226 ty_BR ty_BR_ok nm_BR hown hK hP hD hS 0 rfl rfl 8 (by decide) (hts _ w_227) (fun _ h9 => h9) rfl (by decide +kernel) rfl rfl (Nat.le_of_ble_eq_true rfl) d_BR_read_90 (fun H locs hP hD hS => ?_)
            have hP : va_P (dC, dI) vwCl (wd_BR_read br g ga hs hsa t ta cB cI cJ b_at_70 b_end b_start b_most b_dist x2 gn gf hsn hsf tn_70 tf_70) H := hP
            have hD : va_D A (wd_BR_read br g ga hs hsa t ta cB cI cJ b_at_70 b_end b_start b_most b_dist x2 gn gf hsn hsf tn_70 tf_70) := hD
            refine lv_iconst (v := 0) hx hb d_BR_read_93 (by decide) ?_
            cases hf
            exact s_iret hx hb hr hlocks hP hK hD hS d_BR_read_94
noncomputable def j_BR_read_0 (N : Nat) (x1 : Int32) (x2 : Int32) (x3 : Int32) (x4 : Int32) (b_dist : Int32) (b_place : Int32) (gn : Int32) (gf : Nat → Int32) (hsn : Int32) (hsf : Nat → Int32) (tn : Int32) (tf : Nat → Int32)  : Option (Int32 × Int32 × Int32 × Int32 × Int32 × Int32 × Int32 × Int32 × (Nat → Int32)) :=
  (loop6 (b_BR_read_24 N x2 x2 x3 x4 gn gf hsn hsf ) N x1 x1 b_dist b_place tn tf)
set_option maxHeartbeats 4000000 in
set_option maxRecDepth 100000 in
theorem k_BR_read_0 {r_z : Int32} {b_at_z : Int32} {b_end_z : Int32} {b_start_z : Int32} {b_most_z : Int32} {b_dist_z : Int32} {b_place_z : Int32} {tn_z : Int32} {tf_z : Nat → Int32} (C : Fx p s m args meth c cd_BR_read 9 R_BR lw_g (some .int)) (hK : va_K (dC, dI) vwCl [(cB, .byte), (cI, .int), (cJ, .long)] s) (hA : ∀ q, s.heap.size ≤ q → A q) (x1 : Int32) (x2 : Int32) (x3 : Int32) (x4 : Int32) (b_at : Int32) (b_end : Int32) (b_start : Int32) (b_most : Int32) (b_dist : Int32) (b_place : Int32) (gn : Int32) (gf : Nat → Int32) (hsn : Int32) (hsf : Nat → Int32) (tn : Int32) (tf : Nat → Int32)  (hf : j_BR_read_0 N x1 x2 x3 x4 b_dist b_place gn gf hsn hsf tn tf  = some (r_z, b_at_z, b_end_z, b_start_z, b_most_z, b_dist_z, b_place_z, tn_z, tf_z)) (hP : va_P (dC, dI) vwCl (wd_BR_read br g ga hs hsa t ta cB cI cJ b_at b_end b_start b_most b_dist b_place gn gf hsn hsf tn tf) H) (hD : va_D A (wd_BR_read br g ga hs hsa t ta cB cI cJ b_at b_end b_start b_most b_dist b_place gn gf hsn hsf tn tf)) (hS : va_S A s.heap H locs) (hl : lv_has ls 9 [(0, .ref br), (1, .int x1), (2, .int x2), (3, .int x3), (4, .int x4)]) : W p l e rm_BR_read s m args below meth c H locs 0 0 (MQ below (sQi (dC, dI) vwCl [(cB, .byte), (cI, .int), (cJ, .long)] A r_z (wd_BR_read br g ga hs hsa t ta cB cI cJ b_at_z b_end_z b_start_z b_most_z b_dist_z b_place_z gn gf hsn hsf tn_z tf_z)) args s 0 0 A) (F0 m 0 ls []) := by
  obtain ⟨hx, hb, hml, hown, hts, hr, hlocks, hZ⟩ := id C
  unfold j_BR_read_0 at hf
  refine lv_aload_n hx hb d_BR_read_0 rfl (lv_at hl 0 rfl) ?_
  refine lv_iload_n hx hb d_BR_read_1 rfl (lv_at hl 1 rfl) ?_
  refine va_put (D := (dC, dI)) (ci := 5) (v := .int x1) (ty := .int) (C := R_BR) (T := T_BR) (N := 9) hx hb hts w_226 ty_BR ty_BR_ok nm_BR hown hK hP hD hS 0 rfl rfl 3 (by decide) (hts _ w_228) (fun _ h9 => h9) rfl (by decide +kernel) rfl rfl (Nat.le_of_ble_eq_true rfl) d_BR_read_2 (fun H locs hP hD hS => ?_)
  have hP : va_P (dC, dI) vwCl (wd_BR_read br g ga hs hsa t ta cB cI cJ x1 b_end b_start b_most b_dist b_place gn gf hsn hsf tn tf) H := hP
  have hD : va_D A (wd_BR_read br g ga hs hsa t ta cB cI cJ x1 b_end b_start b_most b_dist b_place gn gf hsn hsf tn tf) := hD
  refine lv_aload_n hx hb d_BR_read_5 rfl (lv_at hl 0 rfl) ?_
  refine lv_iload_n hx hb d_BR_read_6 rfl (lv_at hl 2 rfl) ?_
  refine va_put (D := (dC, dI)) (ci := 5) (v := .int x2) (ty := .int) (C := R_BR) (T := T_BR) (N := 9) hx hb hts w_226 ty_BR ty_BR_ok nm_BR hown hK hP hD hS 0 rfl rfl 4 (by decide) (hts _ w_229) (fun _ h9 => h9) rfl (by decide +kernel) rfl rfl (Nat.le_of_ble_eq_true rfl) d_BR_read_7 (fun H locs hP hD hS => ?_)
  have hP : va_P (dC, dI) vwCl (wd_BR_read br g ga hs hsa t ta cB cI cJ x1 x2 b_start b_most b_dist b_place gn gf hsn hsf tn tf) H := hP
  have hD : va_D A (wd_BR_read br g ga hs hsa t ta cB cI cJ x1 x2 b_start b_most b_dist b_place gn gf hsn hsf tn tf) := hD
  refine lv_aload_n hx hb d_BR_read_10 rfl (lv_at hl 0 rfl) ?_
  refine lv_iload_n hx hb d_BR_read_11 rfl (lv_at hl 3 rfl) ?_
  refine va_put (D := (dC, dI)) (ci := 5) (v := .int x3) (ty := .int) (C := R_BR) (T := T_BR) (N := 9) hx hb hts w_226 ty_BR ty_BR_ok nm_BR hown hK hP hD hS 0 rfl rfl 5 (by decide) (hts _ w_236) (fun _ h9 => h9) rfl (by decide +kernel) rfl rfl (Nat.le_of_ble_eq_true rfl) d_BR_read_12 (fun H locs hP hD hS => ?_)
  have hP : va_P (dC, dI) vwCl (wd_BR_read br g ga hs hsa t ta cB cI cJ x1 x2 x3 b_most b_dist b_place gn gf hsn hsf tn tf) H := hP
  have hD : va_D A (wd_BR_read br g ga hs hsa t ta cB cI cJ x1 x2 x3 b_most b_dist b_place gn gf hsn hsf tn tf) := hD
  refine lv_aload_n hx hb d_BR_read_15 rfl (lv_at hl 0 rfl) ?_
  refine lv_iload hx hb d_BR_read_16 (lv_at hl 4 rfl) ?_
  refine va_put (D := (dC, dI)) (ci := 5) (v := .int x4) (ty := .int) (C := R_BR) (T := T_BR) (N := 9) hx hb hts w_226 ty_BR ty_BR_ok nm_BR hown hK hP hD hS 0 rfl rfl 6 (by decide) (hts _ w_232) (fun _ h9 => h9) rfl (by decide +kernel) rfl rfl (Nat.le_of_ble_eq_true rfl) d_BR_read_18 (fun H locs hP hD hS => ?_)
  have hP : va_P (dC, dI) vwCl (wd_BR_read br g ga hs hsa t ta cB cI cJ x1 x2 x3 x4 b_dist b_place gn gf hsn hsf tn tf) H := hP
  have hD : va_D A (wd_BR_read br g ga hs hsa t ta cB cI cJ x1 x2 x3 x4 b_dist b_place gn gf hsn hsf tn tf) := hD
  refine lv_iload_n hx hb d_BR_read_21 rfl (lv_at hl 1 rfl) ?_
  refine lv_istore (lv' := [(5, .int x1), (0, .ref br), (1, .int x1), (2, .int x2), (3, .int x3), (4, .int x4)]) hx hb d_BR_read_22 hl (by decide) rfl (fun ls hl => ?_)
  exact k_BR_read_24 C hK hA x2 x2 x3 x4 gn gf hsn hsf  N x1 x1 b_dist b_place tn tf hf _ _ hP hD hS _ (lv_sub hl [1, 3, 0] rfl)
end
noncomputable abbrev f_BR_read (N : Nat) (x1 : Int32) (x2 : Int32) (x3 : Int32) (x4 : Int32) (b_dist : Int32) (b_place : Int32) (gn : Int32) (gf : Nat → Int32) (hsn : Int32) (hsf : Nat → Int32) (tn : Int32) (tf : Nat → Int32) : Option (Int32 × Int32 × Int32 × Int32 × Int32 × Int32 × Int32 × Int32 × (Nat → Int32)) := j_BR_read_0 N x1 x2 x3 x4 b_dist b_place gn gf hsn hsf tn tf
set_option maxRecDepth 100000 in
theorem c_BR_read {N : Nat} (l : Launch) (dC : Nat → ClassId) (dI : Nat → Nat → Nat) (cB cI cJ : ClassId) (br g ga hs hsa t ta : Nat) (b_at : Int32) (b_end : Int32) (b_start : Int32) (b_most : Int32) (b_dist : Int32) (b_place : Int32) (gn : Int32) (gf : Nat → Int32) (hsn : Int32) (hsf : Nat → Int32) (tn : Int32) (tf : Nat → Int32) (x1 : Int32) (x2 : Int32) (x3 : Int32) (x4 : Int32) {r_z : Int32} {b_at_z : Int32} {b_end_z : Int32} {b_start_z : Int32} {b_most_z : Int32} {b_dist_z : Int32} {b_place_z : Int32} {tn_z : Int32} {tf_z : Nat → Int32} (hf : f_BR_read N x1 x2 x3 x4 b_dist b_place gn gf hsn hsf tn tf = some (r_z, b_at_z, b_end_z, b_start_z, b_most_z, b_dist_z, b_place_z, tn_z, tf_z)) : MetI l y_BR_read ws_BR_read rm_BR_read (dC, dI) vwCl [(cB, .byte), (cI, .int), (cJ, .long)] [.ref br, .int x1, .int x2, .int x3, .int x4] (wd_BR_read br g ga hs hsa t ta cB cI cJ b_at b_end b_start b_most b_dist b_place gn gf hsn hsf tn tf) r_z (wd_BR_read br g ga hs hsa t ta cB cI cJ b_at_z b_end_z b_start_z b_most_z b_dist_z b_place_z gn gf hsn hsf tn_z tf_z) 0 0 :=
  s_ofi (bytes := cd_BR_read) (maxL := 9) (ret := (some .int)) (by decide) rfl (Nat.le_of_ble_eq_true rfl) (fun p e s m below meth c A ls C hK hA hP hD hS hl => k_BR_read_0 C hK hA x1 x2 x3 x4 b_at b_end b_start b_most b_dist b_place gn gf hsn hsf tn tf hf hP hD hS (lv_sub hl [0, 1, 2, 3, 4] rfl))

abbrev wd_BR_where (br g hs t : Nat) (cB cI cJ : ClassId) (b_at : Int32) (b_end : Int32) (b_start : Int32) (b_most : Int32) (b_dist : Int32) (b_place : Int32) : va_W := [(br, .inr (5, [.ref g, .ref hs, .ref t, .int b_at, .int b_end, .int b_start, .int b_most, .int b_dist, .int b_place]))]
abbrev rm_BR_where : Room := { frames := 0, cells := 0, slots := 0, locals := 0 }
section
variable {p : Program} {l : Launch} {e : Env} {s : State} {m : MethodId} {args : Array Value} {below : List Frame} {meth : Method} {c : Code} {dC : Nat → ClassId} {dI : Nat → Nat → Nat} {A : Nat → Prop} {cB cI cJ : ClassId} {H : Heap} {locs : List Loc} {ls : Array Slot} {N : Nat} {br g hs t : Nat}
noncomputable def j_BR_where_0 (b_place : Int32)  : Option (Int32) :=
  (some b_place : Option (Int32))
set_option maxHeartbeats 4000000 in
set_option maxRecDepth 100000 in
theorem k_BR_where_0 {r_z : Int32} (C : Fx p s m args meth c cd_BR_where 1 R_BR lw_g (some .int)) (hK : va_K (dC, dI) vwCl [(cB, .byte), (cI, .int), (cJ, .long)] s) (hA : ∀ q, s.heap.size ≤ q → A q) (b_at : Int32) (b_end : Int32) (b_start : Int32) (b_most : Int32) (b_dist : Int32) (b_place : Int32)  (hf : j_BR_where_0 b_place  = some r_z) (hP : va_P (dC, dI) vwCl (wd_BR_where br g hs t cB cI cJ b_at b_end b_start b_most b_dist b_place) H) (hD : va_D A (wd_BR_where br g hs t cB cI cJ b_at b_end b_start b_most b_dist b_place)) (hS : va_S A s.heap H locs) (hl : lv_has ls 1 [(0, .ref br)]) : W p l e rm_BR_where s m args below meth c H locs 0 0 (MQ below (sQi (dC, dI) vwCl [(cB, .byte), (cI, .int), (cJ, .long)] A r_z (wd_BR_where br g hs t cB cI cJ b_at b_end b_start b_most b_dist b_place)) args s 0 0 A) (F0 m 0 ls []) := by
  obtain ⟨hx, hb, hml, hown, hts, hr, hlocks, hZ⟩ := id C
  unfold j_BR_where_0 at hf
  refine lv_aload_n hx hb d_BR_where_0 rfl (lv_at hl 0 rfl) ?_
  refine va_get (D := (dC, dI)) (ci := 5) (v := .int b_place) (C := R_BR) (T := T_BR) (N := 9) hx hb hts w_226 hown hK hP 0 rfl rfl 8 (by decide) (hts _ w_227) (fun _ h9 => h9) rfl d_BR_where_1 ?_
  cases hf
  exact s_iret hx hb hr hlocks hP hK hD hS d_BR_where_4
end
noncomputable abbrev f_BR_where (b_place : Int32) : Option (Int32) := j_BR_where_0 b_place
set_option maxRecDepth 100000 in
theorem c_BR_where (l : Launch) (dC : Nat → ClassId) (dI : Nat → Nat → Nat) (cB cI cJ : ClassId) (br g hs t : Nat) (b_at : Int32) (b_end : Int32) (b_start : Int32) (b_most : Int32) (b_dist : Int32) (b_place : Int32)  {r_z : Int32} (hf : f_BR_where b_place = some r_z) : MetI l y_BR_where ws_BR_where rm_BR_where (dC, dI) vwCl [(cB, .byte), (cI, .int), (cJ, .long)] [.ref br] (wd_BR_where br g hs t cB cI cJ b_at b_end b_start b_most b_dist b_place) r_z (wd_BR_where br g hs t cB cI cJ b_at b_end b_start b_most b_dist b_place) 0 0 :=
  s_ofi (bytes := cd_BR_where) (maxL := 1) (ret := (some .int)) (by decide) rfl (Nat.le_of_ble_eq_true rfl) (fun p e s m below meth c A ls C hK hA hP hD hS hl => k_BR_where_0 C hK hA b_at b_end b_start b_most b_dist b_place hf hP hD hS (lv_sub hl [0] rfl))

abbrev rm_BR_init : Room := { frames := 1, cells := 0, slots := 0, locals := 12 }
abbrev wn_BR_init (cB cI cJ : ClassId) (h0 : Nat) (a1 a2 a3 : Nat) : (Unit) → va_W := (fun (u : Unit) => ([(h0, .inr (5, [.ref a1, .ref a2, .ref a3, .int (0 : Int32), .int (0 : Int32), .int (0 : Int32), .int (0 : Int32), .int (0 : Int32), .int (0 : Int32)]))] : va_W))
set_option maxHeartbeats 4000000 in
set_option maxRecDepth 100000 in
theorem c_BR_init (l : Launch) (dC : Nat → ClassId) (dI : Nat → Nat → Nat) (cB cI cJ : ClassId) (h0 : Nat) (a1 a2 a3 : Nat) : MetN l y_BR_init ws_BR_init rm_BR_init (dC, dI) vwCl [(cB, .byte), (cI, .int), (cJ, .long)] [.ref h0, .ref a1, .ref a2, .ref a3] [(h0, .inr (5, [.null, .null, .null, .int (0 : Int32), .int (0 : Int32), .int (0 : Int32), .int (0 : Int32), .int (0 : Int32), .int (0 : Int32)]))] (wn_BR_init cB cI cJ h0 a1 a2 a3) 0 0 := by
  refine s_ofn (bytes := cd_BR_init) (maxL := 4) (ret := none) (by decide) rfl (Nat.le_of_ble_eq_true rfl) ?_
  intro p e s m below meth c A ls C hin hK hA hP hD hS hl
  obtain ⟨hx, hb, hml, hown, hts, hr, hlocks, hZ⟩ := id C
  have hl : lv_has ls 4 [(0, .ref h0), (1, .ref a1), (2, .ref a2), (3, .ref a3)] := hl
  refine lv_aload_n hx hb d_BR_init_0 rfl (lv_at hl 0 rfl) ?_
  refine W.objInit hx hb hown (hts _ w_518) (hts _ w_495) (hts _ w_496) rfl (by rw [hml]; exact hl.1) rfl d_BR_init_1 (Nat.le_of_ble_eq_true rfl) (Nat.le_of_ble_eq_true rfl) ?_
  refine W.eq (g2 := F0 m 4 ls []) rfl ?_
  refine lv_aload_n hx hb d_BR_init_4 rfl (lv_at hl 0 rfl) ?_
  refine lv_aload_n hx hb d_BR_init_5 rfl (lv_at hl 1 rfl) ?_
  refine va_putF (D := (dC, dI)) (ci := 5) (v := .ref a1) (ty := .object "TokenFrames$Row") (C := R_BR) (T := T_BR) (N := 9) hx hb hts w_226 ty_BR ty_BR_ok nm_BR hown hK hP hD hS 0 rfl rfl 0 (by decide) (hts _ w_230) (fun _ h9 => h9) rfl hin rfl (by decide +kernel) rfl rfl (Nat.le_of_ble_eq_true rfl) d_BR_init_6 (fun H locs hP hD hS => ?_)
  have hP : va_P (dC, dI) vwCl [(h0, .inr (5, [.ref a1, .null, .null, .int (0 : Int32), .int (0 : Int32), .int (0 : Int32), .int (0 : Int32), .int (0 : Int32), .int (0 : Int32)]))] H := hP
  have hD : va_D A [(h0, .inr (5, [.ref a1, .null, .null, .int (0 : Int32), .int (0 : Int32), .int (0 : Int32), .int (0 : Int32), .int (0 : Int32), .int (0 : Int32)]))] := hD
  refine lv_aload_n hx hb d_BR_init_9 rfl (lv_at hl 0 rfl) ?_
  refine lv_aload_n hx hb d_BR_init_10 rfl (lv_at hl 2 rfl) ?_
  refine va_putF (D := (dC, dI)) (ci := 5) (v := .ref a2) (ty := .object "TokenFrames$Row") (C := R_BR) (T := T_BR) (N := 9) hx hb hts w_226 ty_BR ty_BR_ok nm_BR hown hK hP hD hS 0 rfl rfl 1 (by decide) (hts _ w_237) (fun _ h9 => h9) rfl hin rfl (by decide +kernel) rfl rfl (Nat.le_of_ble_eq_true rfl) d_BR_init_11 (fun H locs hP hD hS => ?_)
  have hP : va_P (dC, dI) vwCl [(h0, .inr (5, [.ref a1, .ref a2, .null, .int (0 : Int32), .int (0 : Int32), .int (0 : Int32), .int (0 : Int32), .int (0 : Int32), .int (0 : Int32)]))] H := hP
  have hD : va_D A [(h0, .inr (5, [.ref a1, .ref a2, .null, .int (0 : Int32), .int (0 : Int32), .int (0 : Int32), .int (0 : Int32), .int (0 : Int32), .int (0 : Int32)]))] := hD
  refine lv_aload_n hx hb d_BR_init_14 rfl (lv_at hl 0 rfl) ?_
  refine lv_aload_n hx hb d_BR_init_15 rfl (lv_at hl 3 rfl) ?_
  refine va_putF (D := (dC, dI)) (ci := 5) (v := .ref a3) (ty := .object "TokenFrames$Row") (C := R_BR) (T := T_BR) (N := 9) hx hb hts w_226 ty_BR ty_BR_ok nm_BR hown hK hP hD hS 0 rfl rfl 2 (by decide) (hts _ w_233) (fun _ h9 => h9) rfl hin rfl (by decide +kernel) rfl rfl (Nat.le_of_ble_eq_true rfl) d_BR_init_16 (fun H locs hP hD hS => ?_)
  have hP : va_P (dC, dI) vwCl [(h0, .inr (5, [.ref a1, .ref a2, .ref a3, .int (0 : Int32), .int (0 : Int32), .int (0 : Int32), .int (0 : Int32), .int (0 : Int32), .int (0 : Int32)]))] H := hP
  have hD : va_D A [(h0, .inr (5, [.ref a1, .ref a2, .ref a3, .int (0 : Int32), .int (0 : Int32), .int (0 : Int32), .int (0 : Int32), .int (0 : Int32), .int (0 : Int32)]))] := hD
  exact s_nret (wn := wn_BR_init cB cI cJ h0 a1 a2 a3) () hx hb hr hlocks hP hK hD hS d_BR_init_19
