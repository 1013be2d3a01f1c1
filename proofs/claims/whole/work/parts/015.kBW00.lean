abbrev wd_BW_addGrowth (r ra : Nat) (cB cI cJ : ClassId) (rL : Nat) (rn : Int32) (rf : Nat → Int32) : va_W := [(r, .inr (1, [.ref ra, .int rn])), (ra, .inl (cB, rL, .inl rf))]
abbrev rm_BW_addGrowth : Room := { frames := 1, cells := 0, slots := 0, locals := 21 }
section
variable {p : Program} {l : Launch} {e : Env} {s : State} {m : MethodId} {args : Array Value} {below : List Frame} {meth : Method} {c : Code} {dC : Nat → ClassId} {dI : Nat → Nat → Nat} {A : Nat → Prop} {cB cI cJ : ClassId} {H : Heap} {locs : List Loc} {ls : Array Slot} {N : Nat} {r ra rL : Nat}
noncomputable def b_BW_addGrowth_13 (rL : Nat)  (kh13 : Int32 → Int32 → (Nat → Int32) → Option (Int32 × Int32 × (Nat → Int32))) (x2 : Int32) (rn : Int32) (rf : Nat → Int32) : Option (Int32 × Int32 × (Nat → Int32)) :=
  (if x2 < (255 : Int32) then bd3 (f_Row_add rL x2 rn rf) (fun r43 rn_43 rf_43 => as_ (narrow .boolean (.int r43) = .int r43) ((some (r43, rn_43, rf_43) : Option (Int32 × Int32 × (Nat → Int32))))) else bd3 (f_Row_add rL (255 : Int32) rn rf) (fun r24 rn_24 rf_24 => (if r24 = 0 then (some ((0 : Int32), rn_24, rf_24) : Option (Int32 × Int32 × (Nat → Int32))) else (kh13 (x2 + (-255)) rn_24 rf_24))))
set_option maxHeartbeats 4000000 in
set_option maxRecDepth 100000 in
theorem k_BW_addGrowth_13 {r_z : Int32} {rn_z : Int32} {rf_z : Nat → Int32} (C : Fx p s m args meth c cd_BW_addGrowth 3 R_BW lw_g (some .boolean)) (hK : va_K (dC, dI) vwCl [(cB, .byte), (cI, .int), (cJ, .long)] s) (hA : ∀ q, s.heap.size ≤ q → A q)   : ∀ (n : Nat) (x2 : Int32) (rn : Int32) (rf : Nat → Int32), loop3 (b_BW_addGrowth_13 rL ) n x2 rn rf = some (r_z, rn_z, rf_z) → ∀ (H : Heap) (locs : List Loc), va_P (dC, dI) vwCl (wd_BW_addGrowth r ra cB cI cJ rL rn rf) H → va_D A (wd_BW_addGrowth r ra cB cI cJ rL rn rf) → va_S A s.heap H locs → ∀ (ls : Array Slot), lv_has ls 3 [(1, .ref r), (2, .int x2)] → W p l e rm_BW_addGrowth s m args below meth c H locs 0 0 (MQ below (sQi (dC, dI) vwCl [(cB, .byte), (cI, .int), (cJ, .long)] A r_z (wd_BW_addGrowth r ra cB cI cJ rL rn_z rf_z)) args s 0 0 A) (F0 m 13 ls []) := by
  obtain ⟨hx, hb, hml, hown, hts, hr, hlocks, hZ⟩ := id C
  intro n
  induction n with
  | zero => intro x2 rn rf hf; cases hf
  | succ n ih13 =>
    intro x2 rn rf hf H locs hP hD hS ls hl
    have hf : b_BW_addGrowth_13 rL  (loop3 (b_BW_addGrowth_13 rL ) n) x2 rn rf = some (r_z, rn_z, rf_z) := hf
    generalize loop3 (b_BW_addGrowth_13 rL ) n = kh13 at hf ih13
    unfold b_BW_addGrowth_13 at hf
    refine lv_iload_n hx hb d_BW_addGrowth_13 rfl (lv_at hl 1 rfl) ?_
    refine lv_sipush (v := 255) hx hb d_BW_addGrowth_14 (by decide) ?_
    refine lv_icmp_lt (tgt := 41) hx hb d_BW_addGrowth_17 (by decide) (fun c_17 => ?_) (fun c_17 => ?_)
    · have hf := br_pos c_17 hf
      refine lv_aload_n hx hb d_BW_addGrowth_41 rfl (lv_at hl 0 rfl) ?_
      refine lv_iload_n hx hb d_BW_addGrowth_42 rfl (lv_at hl 1 rfl) ?_
      obtain ⟨r43, rn_43, rf_43, hc43, hf⟩ := bd3_some hf
      refine s_Vi (As := [.int x2]) (rest := []) (wr := []) (ws' := wd_BW_addGrowth r ra cB cI cJ rL rn_43 rf_43) C.call (c_Row_add l dC dI cB cI cJ r ra rL rn rf x2 hc43) (cwV 1 hts (gd_V w_40 w_41 w_42 w_12 w_43) rfl rfl rfl ⟨rfl, hd_Row_add⟩ ⟨Nat.le_of_ble_eq_true rfl, Nat.le_of_ble_eq_true rfl⟩) rfl hl.1 rfl (Nat.le_of_ble_eq_true rfl) d_BW_addGrowth_43 ⟨Nat.le_of_ble_eq_true rfl, Nat.le_of_ble_eq_true rfl⟩ hZ hK hP hD hS hA 1 0 rfl rfl [0, 1] [] [0, 1] rfl rfl rfl rfl (by decide) rfl rfl (fun H locs hP hD hS => ?_)
      obtain ⟨hnb, hf⟩ := as_some hf
      cases hf
      exact s_zret hx hb hr hnb hlocks hP hK hD hS d_BW_addGrowth_46
    · have hf := br_neg c_17 hf
      refine lv_aload_n hx hb d_BW_addGrowth_20 rfl (lv_at hl 0 rfl) ?_
      refine lv_sipush (v := 255) hx hb d_BW_addGrowth_21 (by decide) ?_
      obtain ⟨r24, rn_24, rf_24, hc24, hf⟩ := bd3_some hf
      refine s_Vi (As := [.int (255 : Int32)]) (rest := []) (wr := []) (ws' := wd_BW_addGrowth r ra cB cI cJ rL rn_24 rf_24) C.call (c_Row_add l dC dI cB cI cJ r ra rL rn rf (255 : Int32) hc24) (cwV 1 hts (gd_V w_40 w_41 w_42 w_12 w_43) rfl rfl rfl ⟨rfl, hd_Row_add⟩ ⟨Nat.le_of_ble_eq_true rfl, Nat.le_of_ble_eq_true rfl⟩) rfl hl.1 rfl (Nat.le_of_ble_eq_true rfl) d_BW_addGrowth_24 ⟨Nat.le_of_ble_eq_true rfl, Nat.le_of_ble_eq_true rfl⟩ hZ hK hP hD hS hA 1 0 rfl rfl [0, 1] [] [0, 1] rfl rfl rfl rfl (by decide) rfl rfl (fun H locs hP hD hS => ?_)
      refine lv_if_ne (tgt := 32) hx hb d_BW_addGrowth_27 (by decide) (fun c_27 => ?_) (fun c_27 => ?_)
      · have hf := br_neg c_27 hf
        refine lv_iincW (v := (x2 + (-255))) (lv' := [(2, .int (x2 + (-255))), (1, .ref r)]) hx hb d_BW_addGrowth_32 hl (k := 1) rfl (congrArg (fun z => x2 + z) (by decide)) (by decide) rfl (fun ls hl => ?_)
        refine lv_goto (tgt := 13) hx hb d_BW_addGrowth_38 (by decide) ?_
        exact ih13 (x2 + (-255)) rn_24 rf_24 hf _ _ hP hD hS _ (lv_sub hl [1, 0] rfl)
      · have hf := br_pos c_27 hf
        refine lv_iconst (v := 0) hx hb d_BW_addGrowth_30 (by decide) ?_
        cases hf
        exact s_zret hx hb hr (by decide) hlocks hP hK hD hS d_BW_addGrowth_31
noncomputable def j_BW_addGrowth_0 (N : Nat) (rL : Nat) (x0 : Int32) (rn : Int32) (rf : Nat → Int32)  : Option (Int32 × Int32 × (Nat → Int32)) :=
  (if (15 : Int32) ≤ x0 then (loop3 (b_BW_addGrowth_13 rL ) N (x0 - (15 : Int32)) rn rf) else (some ((1 : Int32), rn, rf) : Option (Int32 × Int32 × (Nat → Int32))))
set_option maxHeartbeats 4000000 in
set_option maxRecDepth 100000 in
theorem k_BW_addGrowth_0 {r_z : Int32} {rn_z : Int32} {rf_z : Nat → Int32} (C : Fx p s m args meth c cd_BW_addGrowth 3 R_BW lw_g (some .boolean)) (hK : va_K (dC, dI) vwCl [(cB, .byte), (cI, .int), (cJ, .long)] s) (hA : ∀ q, s.heap.size ≤ q → A q) (x0 : Int32) (rn : Int32) (rf : Nat → Int32)  (hf : j_BW_addGrowth_0 N rL x0 rn rf  = some (r_z, rn_z, rf_z)) (hP : va_P (dC, dI) vwCl (wd_BW_addGrowth r ra cB cI cJ rL rn rf) H) (hD : va_D A (wd_BW_addGrowth r ra cB cI cJ rL rn rf)) (hS : va_S A s.heap H locs) (hl : lv_has ls 3 [(0, .int x0), (1, .ref r)]) : W p l e rm_BW_addGrowth s m args below meth c H locs 0 0 (MQ below (sQi (dC, dI) vwCl [(cB, .byte), (cI, .int), (cJ, .long)] A r_z (wd_BW_addGrowth r ra cB cI cJ rL rn_z rf_z)) args s 0 0 A) (F0 m 0 ls []) := by
  obtain ⟨hx, hb, hml, hown, hts, hr, hlocks, hZ⟩ := id C
  unfold j_BW_addGrowth_0 at hf
  refine lv_iload_n hx hb d_BW_addGrowth_0 rfl (lv_at hl 0 rfl) ?_
  refine lv_bipush (v := 15) hx hb d_BW_addGrowth_1 (by decide) ?_
  refine lv_icmp_ge (tgt := 8) hx hb d_BW_addGrowth_3 (by decide) (fun c_3 => ?_) (fun c_3 => ?_)
  · have hf := br_pos c_3 hf
    refine lv_iload_n hx hb d_BW_addGrowth_8 rfl (lv_at hl 0 rfl) ?_
    refine lv_bipush (v := 15) hx hb d_BW_addGrowth_9 (by decide) ?_
    refine lv_isub hx hb d_BW_addGrowth_11 ?_
    refine lv_istore_n (lv' := [(2, .int (x0 - (15 : Int32))), (0, .int x0), (1, .ref r)]) hx hb d_BW_addGrowth_12 rfl hl (by decide) rfl (fun ls hl => ?_)
    exact k_BW_addGrowth_13 C hK hA   N (x0 - (15 : Int32)) rn rf hf _ _ hP hD hS _ (lv_sub hl [2, 0] rfl)
  · have hf := br_neg c_3 hf
    refine lv_iconst (v := 1) hx hb d_BW_addGrowth_6 (by decide) ?_
    cases hf
    exact s_zret hx hb hr (by decide) hlocks hP hK hD hS d_BW_addGrowth_7
end
noncomputable abbrev f_BW_addGrowth (N : Nat) (rL : Nat) (x0 : Int32) (rn : Int32) (rf : Nat → Int32) : Option (Int32 × Int32 × (Nat → Int32)) := j_BW_addGrowth_0 N rL x0 rn rf
set_option maxRecDepth 100000 in
theorem c_BW_addGrowth {N : Nat} (l : Launch) (dC : Nat → ClassId) (dI : Nat → Nat → Nat) (cB cI cJ : ClassId) (r ra rL : Nat) (rn : Int32) (rf : Nat → Int32) (x0 : Int32) {r_z : Int32} {rn_z : Int32} {rf_z : Nat → Int32} (hf : f_BW_addGrowth N rL x0 rn rf = some (r_z, rn_z, rf_z)) : MetI l y_BW_addGrowth ws_BW_addGrowth rm_BW_addGrowth (dC, dI) vwCl [(cB, .byte), (cI, .int), (cJ, .long)] [.int x0, .ref r] (wd_BW_addGrowth r ra cB cI cJ rL rn rf) r_z (wd_BW_addGrowth r ra cB cI cJ rL rn_z rf_z) 0 0 :=
  s_ofi (bytes := cd_BW_addGrowth) (maxL := 3) (ret := (some .boolean)) (by decide) rfl (Nat.le_of_ble_eq_true rfl) (fun p e s m below meth c A ls C hK hA hP hD hS hl => k_BW_addGrowth_0 C hK hA x0 rn rf hf hP hD hS (lv_sub hl [0, 1] rfl))

abbrev wd_BW_addCopy (r ra : Nat) (cB cI cJ : ClassId) (rL : Nat) (rn : Int32) (rf : Nat → Int32) : va_W := [(r, .inr (1, [.ref ra, .int rn])), (ra, .inl (cB, rL, .inl rf))]
abbrev rm_BW_addCopy : Room := { frames := 2, cells := 0, slots := 0, locals := 43 }
section
variable {p : Program} {l : Launch} {e : Env} {s : State} {m : MethodId} {args : Array Value} {below : List Frame} {meth : Method} {c : Code} {dC : Nat → ClassId} {dI : Nat → Nat → Nat} {A : Nat → Prop} {cB cI cJ : ClassId} {H : Heap} {locs : List Loc} {ls : Array Slot} {N : Nat} {r ra rL : Nat}
noncomputable def j_BW_addCopy_0 (N : Nat) (rL : Nat) (x0 : Int32) (x1 : Int32) (rn : Int32) (rf : Nat → Int32)  : Option (Int32 × Int32 × (Nat → Int32)) :=
  bd3 (f_Row_add rL x0 rn rf) (fun r2 rn_2 rf_2 => (if r2 = 0 then (some ((0 : Int32), rn_2, rf_2) : Option (Int32 × Int32 × (Nat → Int32))) else bd3 (f_Row_add rL (x0 >>> ((8 : Int32) &&& 31)) rn_2 rf_2) (fun r13 rn_13 rf_13 => (if r13 = 0 then (some ((0 : Int32), rn_13, rf_13) : Option (Int32 × Int32 × (Nat → Int32))) else bd3 (f_BW_addGrowth N rL x1 rn_13 rf_13) (fun r21 rn_21 rf_21 => (if r21 = 0 then (some ((0 : Int32), rn_21, rf_21) : Option (Int32 × Int32 × (Nat → Int32))) else (some ((1 : Int32), rn_21, rf_21) : Option (Int32 × Int32 × (Nat → Int32)))))))))
set_option maxHeartbeats 4000000 in
set_option maxRecDepth 100000 in
theorem k_BW_addCopy_0 {r_z : Int32} {rn_z : Int32} {rf_z : Nat → Int32} (C : Fx p s m args meth c cd_BW_addCopy 3 R_BW lw_g (some .boolean)) (hK : va_K (dC, dI) vwCl [(cB, .byte), (cI, .int), (cJ, .long)] s) (hA : ∀ q, s.heap.size ≤ q → A q) (x0 : Int32) (x1 : Int32) (rn : Int32) (rf : Nat → Int32)  (hf : j_BW_addCopy_0 N rL x0 x1 rn rf  = some (r_z, rn_z, rf_z)) (hP : va_P (dC, dI) vwCl (wd_BW_addCopy r ra cB cI cJ rL rn rf) H) (hD : va_D A (wd_BW_addCopy r ra cB cI cJ rL rn rf)) (hS : va_S A s.heap H locs) (hl : lv_has ls 3 [(0, .int x0), (1, .int x1), (2, .ref r)]) : W p l e rm_BW_addCopy s m args below meth c H locs 0 0 (MQ below (sQi (dC, dI) vwCl [(cB, .byte), (cI, .int), (cJ, .long)] A r_z (wd_BW_addCopy r ra cB cI cJ rL rn_z rf_z)) args s 0 0 A) (F0 m 0 ls []) := by
  obtain ⟨hx, hb, hml, hown, hts, hr, hlocks, hZ⟩ := id C
  unfold j_BW_addCopy_0 at hf
  refine lv_aload_n hx hb d_BW_addCopy_0 rfl (lv_at hl 2 rfl) ?_
  refine lv_iload_n hx hb d_BW_addCopy_1 rfl (lv_at hl 0 rfl) ?_
  obtain ⟨r2, rn_2, rf_2, hc2, hf⟩ := bd3_some hf
  refine s_Vi (As := [.int x0]) (rest := []) (wr := []) (ws' := wd_BW_addCopy r ra cB cI cJ rL rn_2 rf_2) C.call (c_Row_add l dC dI cB cI cJ r ra rL rn rf x0 hc2) (cwV 1 hts (gd_V w_40 w_41 w_42 w_12 w_43) rfl rfl rfl ⟨rfl, hd_Row_add⟩ ⟨Nat.le_of_ble_eq_true rfl, Nat.le_of_ble_eq_true rfl⟩) rfl hl.1 rfl (Nat.le_of_ble_eq_true rfl) d_BW_addCopy_2 ⟨Nat.le_of_ble_eq_true rfl, Nat.le_of_ble_eq_true rfl⟩ hZ hK hP hD hS hA 1 0 rfl rfl [0, 1] [] [0, 1] rfl rfl rfl rfl (by decide) rfl rfl (fun H locs hP hD hS => ?_)
  refine lv_if_eq (tgt := 31) hx hb d_BW_addCopy_5 (by decide) (fun c_5 => ?_) (fun c_5 => ?_)
  · have hf := br_pos c_5 hf
    refine lv_iconst (v := 0) hx hb d_BW_addCopy_31 (by decide) ?_
    cases hf
    exact s_zret hx hb hr (by decide) hlocks hP hK hD hS d_BW_addCopy_32
  · have hf := br_neg c_5 hf
    refine lv_aload_n hx hb d_BW_addCopy_8 rfl (lv_at hl 2 rfl) ?_
    refine lv_iload_n hx hb d_BW_addCopy_9 rfl (lv_at hl 0 rfl) ?_
    refine lv_bipush (v := 8) hx hb d_BW_addCopy_10 (by decide) ?_
    refine lv_ishr hx hb d_BW_addCopy_12 ?_
    obtain ⟨r13, rn_13, rf_13, hc13, hf⟩ := bd3_some hf
    refine s_Vi (As := [.int (x0 >>> ((8 : Int32) &&& 31))]) (rest := []) (wr := []) (ws' := wd_BW_addCopy r ra cB cI cJ rL rn_13 rf_13) C.call (c_Row_add l dC dI cB cI cJ r ra rL rn_2 rf_2 (x0 >>> ((8 : Int32) &&& 31)) hc13) (cwV 1 hts (gd_V w_40 w_41 w_42 w_12 w_43) rfl rfl rfl ⟨rfl, hd_Row_add⟩ ⟨Nat.le_of_ble_eq_true rfl, Nat.le_of_ble_eq_true rfl⟩) rfl hl.1 rfl (Nat.le_of_ble_eq_true rfl) d_BW_addCopy_13 ⟨Nat.le_of_ble_eq_true rfl, Nat.le_of_ble_eq_true rfl⟩ hZ hK hP hD hS hA 1 0 rfl rfl [0, 1] [] [0, 1] rfl rfl rfl rfl (by decide) rfl rfl (fun H locs hP hD hS => ?_)
    refine lv_if_eq (tgt := 31) hx hb d_BW_addCopy_16 (by decide) (fun c_16 => ?_) (fun c_16 => ?_)
    · have hf := br_pos c_16 hf
      refine lv_iconst (v := 0) hx hb d_BW_addCopy_31 (by decide) ?_
      cases hf
      exact s_zret hx hb hr (by decide) hlocks hP hK hD hS d_BW_addCopy_32
    · have hf := br_neg c_16 hf
      refine lv_iload_n hx hb d_BW_addCopy_19 rfl (lv_at hl 1 rfl) ?_
      refine lv_aload_n hx hb d_BW_addCopy_20 rfl (lv_at hl 2 rfl) ?_
      obtain ⟨r21, rn_21, rf_21, hc21, hf⟩ := bd3_some hf
      refine s_Si (As := [.int x1, .ref r]) (rest := []) (wr := []) (ws' := wd_BW_addCopy r ra cB cI cJ rL rn_21 rf_21) C.call (c_BW_addGrowth l dC dI cB cI cJ r ra rL rn_13 rf_13 x1 hc21) (va_cwS 2 hts (gd_S w_44 w_45 w_46 w_47) rfl rfl rfl hd_BW_addGrowth ⟨Nat.le_of_ble_eq_true rfl, Nat.le_of_ble_eq_true rfl⟩) rfl hl.1 rfl (Nat.le_of_ble_eq_true rfl) d_BW_addCopy_21 ⟨Nat.le_of_ble_eq_true rfl, Nat.le_of_ble_eq_true rfl⟩ hZ hK hP hD hS hA [0, 1] [] [0, 1] rfl rfl rfl rfl (by decide) rfl rfl (fun H locs hP hD hS => ?_)
      refine lv_if_eq (tgt := 31) hx hb d_BW_addCopy_24 (by decide) (fun c_24 => ?_) (fun c_24 => ?_)
      · have hf := br_pos c_24 hf
        refine lv_iconst (v := 0) hx hb d_BW_addCopy_31 (by decide) ?_
        cases hf
        exact s_zret hx hb hr (by decide) hlocks hP hK hD hS d_BW_addCopy_32
      · have hf := br_neg c_24 hf
        refine lv_iconst (v := 1) hx hb d_BW_addCopy_27 (by decide) ?_
        refine lv_goto (tgt := 32) hx hb d_BW_addCopy_28 (by decide) ?_
        cases hf
        exact s_zret hx hb hr (by decide) hlocks hP hK hD hS d_BW_addCopy_32
end
noncomputable abbrev f_BW_addCopy (N : Nat) (rL : Nat) (x0 : Int32) (x1 : Int32) (rn : Int32) (rf : Nat → Int32) : Option (Int32 × Int32 × (Nat → Int32)) := j_BW_addCopy_0 N rL x0 x1 rn rf
set_option maxRecDepth 100000 in
theorem c_BW_addCopy {N : Nat} (l : Launch) (dC : Nat → ClassId) (dI : Nat → Nat → Nat) (cB cI cJ : ClassId) (r ra rL : Nat) (rn : Int32) (rf : Nat → Int32) (x0 : Int32) (x1 : Int32) {r_z : Int32} {rn_z : Int32} {rf_z : Nat → Int32} (hf : f_BW_addCopy N rL x0 x1 rn rf = some (r_z, rn_z, rf_z)) : MetI l y_BW_addCopy ws_BW_addCopy rm_BW_addCopy (dC, dI) vwCl [(cB, .byte), (cI, .int), (cJ, .long)] [.int x0, .int x1, .ref r] (wd_BW_addCopy r ra cB cI cJ rL rn rf) r_z (wd_BW_addCopy r ra cB cI cJ rL rn_z rf_z) 0 0 :=
  s_ofi (bytes := cd_BW_addCopy) (maxL := 3) (ret := (some .boolean)) (by decide) rfl (Nat.le_of_ble_eq_true rfl) (fun p e s m below meth c A ls C hK hA hP hD hS hl => k_BW_addCopy_0 C hK hA x0 x1 rn rf hf hP hD hS (lv_sub hl [0, 1, 2] rfl))

abbrev wd_BW_addLiterals (bw d da t ta hs mt : Nat) (cB cI cJ : ClassId) (dn : Int32) (df : Nat → Int32) (tn : Int32) (tf : Nat → Int32) : va_W := [(bw, .inr (2, [.ref hs, .ref mt, .ref d])), (d, .inr (1, [.ref da, .int dn])), (da, .inl (cB, 16000, .inl df)), (t, .inr (1, [.ref ta, .int tn])), (ta, .inl (cB, 8000, .inl tf))]
abbrev rm_BW_addLiterals : Room := { frames := 2, cells := 0, slots := 0, locals := 43 }
section
variable {p : Program} {l : Launch} {e : Env} {s : State} {m : MethodId} {args : Array Value} {below : List Frame} {meth : Method} {c : Code} {dC : Nat → ClassId} {dI : Nat → Nat → Nat} {A : Nat → Prop} {cB cI cJ : ClassId} {H : Heap} {locs : List Loc} {ls : Array Slot} {N : Nat} {bw d da t ta hs mt : Nat}
noncomputable def j_BW_addLiterals_0 (N : Nat) (x1 : Int32) (x2 : Int32) (x3 : Int32) (dn : Int32) (df : Nat → Int32) (tn : Int32) (tf : Nat → Int32)  : Option (Int32 × Int32 × (Nat → Int32)) :=
  bd3 (f_Row_add 8000 (((mn (x2 - x1) (15 : Int32)) <<< ((4 : Int32) &&& 31)) ||| (mn x3 (15 : Int32))) tn tf) (fun r27 tn_27 tf_27 => (if r27 = 0 then (some ((0 : Int32), tn_27, tf_27) : Option (Int32 × Int32 × (Nat → Int32))) else bd3 (f_BW_addGrowth N 8000 (x2 - x1) tn_27 tf_27) (fun r37 tn_37 tf_37 => (if r37 = 0 then (some ((0 : Int32), tn_37, tf_37) : Option (Int32 × Int32 × (Nat → Int32))) else bd3 (f_Row_addFrom 8000 16000 x1 x2 tn_37 tf_37 dn df) (fun r51 tn_51 tf_51 => (if r51 = 0 then (some ((0 : Int32), tn_51, tf_51) : Option (Int32 × Int32 × (Nat → Int32))) else (some ((1 : Int32), tn_51, tf_51) : Option (Int32 × Int32 × (Nat → Int32)))))))))
set_option maxHeartbeats 4000000 in
set_option maxRecDepth 100000 in
theorem k_BW_addLiterals_0 {r_z : Int32} {tn_z : Int32} {tf_z : Nat → Int32} (C : Fx p s m args meth c cd_BW_addLiterals 7 R_BW lw_g (some .boolean)) (hK : va_K (dC, dI) vwCl [(cB, .byte), (cI, .int), (cJ, .long)] s) (hA : ∀ q, s.heap.size ≤ q → A q) (x1 : Int32) (x2 : Int32) (x3 : Int32) (dn : Int32) (df : Nat → Int32) (tn : Int32) (tf : Nat → Int32)  (hf : j_BW_addLiterals_0 N x1 x2 x3 dn df tn tf  = some (r_z, tn_z, tf_z)) (hP : va_P (dC, dI) vwCl (wd_BW_addLiterals bw d da t ta hs mt cB cI cJ dn df tn tf) H) (hD : va_D A (wd_BW_addLiterals bw d da t ta hs mt cB cI cJ dn df tn tf)) (hS : va_S A s.heap H locs) (hl : lv_has ls 7 [(0, .ref bw), (1, .int x1), (2, .int x2), (3, .int x3), (4, .ref t)]) : W p l e rm_BW_addLiterals s m args below meth c H locs 0 0 (MQ below (sQi (dC, dI) vwCl [(cB, .byte), (cI, .int), (cJ, .long)] A r_z (wd_BW_addLiterals bw d da t ta hs mt cB cI cJ dn df tn_z tf_z)) args s 0 0 A) (F0 m 0 ls []) := by
  obtain ⟨hx, hb, hml, hown, hts, hr, hlocks, hZ⟩ := id C
  unfold j_BW_addLiterals_0 at hf
  refine lv_iload_n hx hb d_BW_addLiterals_0 rfl (lv_at hl 2 rfl) ?_
  refine lv_iload_n hx hb d_BW_addLiterals_1 rfl (lv_at hl 1 rfl) ?_
  refine lv_isub hx hb d_BW_addLiterals_2 ?_
  refine lv_istore (lv' := [(5, .int (x2 - x1)), (0, .ref bw), (1, .int x1), (2, .int x2), (3, .int x3), (4, .ref t)]) hx hb d_BW_addLiterals_3 hl (by decide) rfl (fun ls hl => ?_)
  refine lv_iload hx hb d_BW_addLiterals_5 (lv_at hl 0 rfl) ?_
  refine lv_bipush (v := 15) hx hb d_BW_addLiterals_7 (by decide) ?_
  refine s_mmin hx hb (hml.trans hl.1.symm) hown (hts _ w_48) (hts _ w_23) (hts _ w_24) (hts _ w_25) (Nat.le_of_ble_eq_true rfl) (Nat.le_of_ble_eq_true rfl) (Nat.zero_le _) (Nat.zero_le _) d_BW_addLiterals_9 ?_
  refine lv_iconst (v := 4) hx hb d_BW_addLiterals_12 (by decide) ?_
  refine lv_ishl hx hb d_BW_addLiterals_13 ?_
  refine lv_iload_n hx hb d_BW_addLiterals_14 rfl (lv_at hl 4 rfl) ?_
  refine lv_bipush (v := 15) hx hb d_BW_addLiterals_15 (by decide) ?_
  refine s_mmin hx hb (hml.trans hl.1.symm) hown (hts _ w_48) (hts _ w_23) (hts _ w_24) (hts _ w_25) (Nat.le_of_ble_eq_true rfl) (Nat.le_of_ble_eq_true rfl) (Nat.zero_le _) (Nat.zero_le _) d_BW_addLiterals_17 ?_
  refine lv_ior hx hb d_BW_addLiterals_20 ?_
  refine lv_istore (lv' := [(6, .int (((mn (x2 - x1) (15 : Int32)) <<< ((4 : Int32) &&& 31)) ||| (mn x3 (15 : Int32)))), (5, .int (x2 - x1)), (0, .ref bw), (1, .int x1), (2, .int x2), (3, .int x3), (4, .ref t)]) hx hb d_BW_addLiterals_21 hl (by decide) rfl (fun ls hl => ?_)
  refine lv_aload hx hb d_BW_addLiterals_23 (lv_at hl 6 rfl) ?_
  refine lv_iload hx hb d_BW_addLiterals_25 (lv_at hl 0 rfl) ?_
  obtain ⟨r27, tn_27, tf_27, hc27, hf⟩ := bd3_some hf
  refine s_Vi (As := [.int (((mn (x2 - x1) (15 : Int32)) <<< ((4 : Int32) &&& 31)) ||| (mn x3 (15 : Int32)))]) (rest := []) (wr := [(bw, .inr (2, [.ref hs, .ref mt, .ref d])), (d, .inr (1, [.ref da, .int dn])), (da, .inl (cB, 16000, .inl df))]) (ws' := wd_BW_addLiterals bw d da t ta hs mt cB cI cJ dn df tn_27 tf_27) C.call (c_Row_add l dC dI cB cI cJ t ta 8000 tn tf (((mn (x2 - x1) (15 : Int32)) <<< ((4 : Int32) &&& 31)) ||| (mn x3 (15 : Int32))) hc27) (cwV 1 hts (gd_V w_40 w_41 w_42 w_12 w_43) rfl rfl rfl ⟨rfl, hd_Row_add⟩ ⟨Nat.le_of_ble_eq_true rfl, Nat.le_of_ble_eq_true rfl⟩) rfl hl.1 rfl (Nat.le_of_ble_eq_true rfl) d_BW_addLiterals_27 ⟨Nat.le_of_ble_eq_true rfl, Nat.le_of_ble_eq_true rfl⟩ hZ hK hP hD hS hA 1 3 rfl rfl [3, 4] [0, 1, 2] [0, 1, 2, 3, 4] rfl rfl rfl rfl (by decide) rfl rfl (fun H locs hP hD hS => ?_)
  refine lv_if_eq (tgt := 61) hx hb d_BW_addLiterals_30 (by decide) (fun c_30 => ?_) (fun c_30 => ?_)
  · have hf := br_pos c_30 hf
    refine lv_iconst (v := 0) hx hb d_BW_addLiterals_61 (by decide) ?_
    cases hf
    exact s_zret hx hb hr (by decide) hlocks hP hK hD hS d_BW_addLiterals_62
  · have hf := br_neg c_30 hf
    refine lv_iload hx hb d_BW_addLiterals_33 (lv_at hl 1 rfl) ?_
    refine lv_aload hx hb d_BW_addLiterals_35 (lv_at hl 6 rfl) ?_
    obtain ⟨r37, tn_37, tf_37, hc37, hf⟩ := bd3_some hf
    refine s_Si (As := [.int (x2 - x1), .ref t]) (rest := []) (wr := [(bw, .inr (2, [.ref hs, .ref mt, .ref d])), (d, .inr (1, [.ref da, .int dn])), (da, .inl (cB, 16000, .inl df))]) (ws' := wd_BW_addLiterals bw d da t ta hs mt cB cI cJ dn df tn_37 tf_37) C.call (c_BW_addGrowth l dC dI cB cI cJ t ta 8000 tn_27 tf_27 (x2 - x1) hc37) (va_cwS 2 hts (gd_S w_44 w_45 w_46 w_47) rfl rfl rfl hd_BW_addGrowth ⟨Nat.le_of_ble_eq_true rfl, Nat.le_of_ble_eq_true rfl⟩) rfl hl.1 rfl (Nat.le_of_ble_eq_true rfl) d_BW_addLiterals_37 ⟨Nat.le_of_ble_eq_true rfl, Nat.le_of_ble_eq_true rfl⟩ hZ hK hP hD hS hA [3, 4] [0, 1, 2] [0, 1, 2, 3, 4] rfl rfl rfl rfl (by decide) rfl rfl (fun H locs hP hD hS => ?_)
    refine lv_if_eq (tgt := 61) hx hb d_BW_addLiterals_40 (by decide) (fun c_40 => ?_) (fun c_40 => ?_)
    · have hf := br_pos c_40 hf
      refine lv_iconst (v := 0) hx hb d_BW_addLiterals_61 (by decide) ?_
      cases hf
      exact s_zret hx hb hr (by decide) hlocks hP hK hD hS d_BW_addLiterals_62
    · have hf := br_neg c_40 hf
      refine lv_aload hx hb d_BW_addLiterals_43 (lv_at hl 6 rfl) ?_
      refine lv_aload_n hx hb d_BW_addLiterals_45 rfl (lv_at hl 2 rfl) ?_
      refine va_get (D := (dC, dI)) (ci := 2) (v := .ref d) (C := R_BW) (T := T_BW) (N := 3) hx hb hts w_49 hown hK hP 0 rfl rfl 2 (by decide) (hts _ w_50) (fun _ h9 => h9) rfl d_BW_addLiterals_46 ?_
      refine lv_iload_n hx hb d_BW_addLiterals_49 rfl (lv_at hl 3 rfl) ?_
      refine lv_iload_n hx hb d_BW_addLiterals_50 rfl (lv_at hl 4 rfl) ?_
      obtain ⟨r51, tn_51, tf_51, hc51, hf⟩ := bd3_some hf
      refine s_Vi (As := [.ref d, .int x1, .int x2]) (rest := []) (wr := [(bw, .inr (2, [.ref hs, .ref mt, .ref d]))]) (ws' := wd_BW_addLiterals bw d da t ta hs mt cB cI cJ dn df tn_51 tf_51) C.call (c_Row_addFrom l dC dI cB cI cJ t ta d da 8000 16000 tn_37 tf_37 dn df x1 x2 hc51) (cwV 3 hts (gd_V w_51 w_19 w_20 w_12 w_21) rfl rfl rfl ⟨rfl, hd_Row_addFrom⟩ ⟨Nat.le_of_ble_eq_true rfl, Nat.le_of_ble_eq_true rfl⟩) rfl hl.1 rfl (Nat.le_of_ble_eq_true rfl) d_BW_addLiterals_51 ⟨Nat.le_of_ble_eq_true rfl, Nat.le_of_ble_eq_true rfl⟩ hZ hK hP hD hS hA 1 3 rfl rfl [3, 4, 1, 2] [0] [0, 3, 4, 1, 2] rfl rfl rfl rfl (by decide) rfl rfl (fun H locs hP hD hS => ?_)
      refine lv_if_eq (tgt := 61) hx hb d_BW_addLiterals_54 (by decide) (fun c_54 => ?_) (fun c_54 => ?_)
      · have hf := br_pos c_54 hf
        refine lv_iconst (v := 0) hx hb d_BW_addLiterals_61 (by decide) ?_
        cases hf
        exact s_zret hx hb hr (by decide) hlocks hP hK hD hS d_BW_addLiterals_62
      · have hf := br_neg c_54 hf
        refine lv_iconst (v := 1) hx hb d_BW_addLiterals_57 (by decide) ?_
        refine lv_goto (tgt := 62) hx hb d_BW_addLiterals_58 (by decide) ?_
        cases hf
        exact s_zret hx hb hr (by decide) hlocks hP hK hD hS d_BW_addLiterals_62
end
noncomputable abbrev f_BW_addLiterals (N : Nat) (x1 : Int32) (x2 : Int32) (x3 : Int32) (dn : Int32) (df : Nat → Int32) (tn : Int32) (tf : Nat → Int32) : Option (Int32 × Int32 × (Nat → Int32)) := j_BW_addLiterals_0 N x1 x2 x3 dn df tn tf
set_option maxRecDepth 100000 in
theorem c_BW_addLiterals {N : Nat} (l : Launch) (dC : Nat → ClassId) (dI : Nat → Nat → Nat) (cB cI cJ : ClassId) (bw d da t ta hs mt : Nat) (dn : Int32) (df : Nat → Int32) (tn : Int32) (tf : Nat → Int32) (x1 : Int32) (x2 : Int32) (x3 : Int32) {r_z : Int32} {tn_z : Int32} {tf_z : Nat → Int32} (hf : f_BW_addLiterals N x1 x2 x3 dn df tn tf = some (r_z, tn_z, tf_z)) : MetI l y_BW_addLiterals ws_BW_addLiterals rm_BW_addLiterals (dC, dI) vwCl [(cB, .byte), (cI, .int), (cJ, .long)] [.ref bw, .int x1, .int x2, .int x3, .ref t] (wd_BW_addLiterals bw d da t ta hs mt cB cI cJ dn df tn tf) r_z (wd_BW_addLiterals bw d da t ta hs mt cB cI cJ dn df tn_z tf_z) 0 0 :=
  s_ofi (bytes := cd_BW_addLiterals) (maxL := 7) (ret := (some .boolean)) (by decide) rfl (Nat.le_of_ble_eq_true rfl) (fun p e s m below meth c A ls C hK hA hP hD hS hl => k_BW_addLiterals_0 C hK hA x1 x2 x3 dn df tn tf hf hP hD hS (lv_sub hl [0, 1, 2, 3, 4] rfl))

abbrev wd_BW_pack (bw mt d da la ea g ga t ta hs : Nat) (cB cI cJ : ClassId) (mc : Int32) (ms : Int32) (ml : Int32) (dn : Int32) (df : Nat → Int32) (laf : Nat → Int32) (eaf : Nat → Int32) (gn : Int32) (gf : Nat → Int32) (tn : Int32) (tf : Nat → Int32) : va_W := [(bw, .inr (2, [.ref hs, .ref mt, .ref d])), (mt, .inr (3, [.ref d, .ref la, .ref ea, .int mc, .int ms, .int ml])), (d, .inr (1, [.ref da, .int dn])), (da, .inl (cB, 16000, .inl df)), (la, .inl (cI, 4096, .inl laf)), (ea, .inl (cI, 16000, .inl eaf)), (g, .inr (1, [.ref ga, .int gn])), (ga, .inl (cB, 8000, .inl gf)), (t, .inr (1, [.ref ta, .int tn])), (ta, .inl (cB, 8000, .inl tf))]
abbrev rm_BW_pack : Room := { frames := 4, cells := 0, slots := 0, locals := 90 }
section
variable {p : Program} {l : Launch} {e : Env} {s : State} {m : MethodId} {args : Array Value} {below : List Frame} {meth : Method} {c : Code} {dC : Nat → ClassId} {dI : Nat → Nat → Nat} {A : Nat → Prop} {cB cI cJ : ClassId} {H : Heap} {locs : List Loc} {ls : Array Slot} {N : Nat} {bw mt d da la ea g ga t ta hs : Nat}
noncomputable def j_BW_pack_130 (x6 : Int32) (x9 : Int32) (x10 : Int32) (mc : Int32) (ms : Int32) (ml : Int32) (laf : Nat → Int32) (eaf : Nat → Int32) (tn : Int32) (tf : Nat → Int32) (kh51 : Int32 → Int32 → Int32 → Int32 → Int32 → (Nat → Int32) → (Nat → Int32) → Int32 → (Nat → Int32) → Option (Int32 × Int32 × Int32 × Int32 × Int32 × (Nat → Int32) × (Nat → Int32) × (Nat → Int32) × Int32 × (Nat → Int32))) : Option (Int32 × Int32 × Int32 × Int32 × Int32 × (Nat → Int32) × (Nat → Int32) × (Nat → Int32) × Int32 × (Nat → Int32)) :=
  (kh51 x6 (x10 + (mx (1 : Int32) x9)) mc ms ml laf eaf tn tf)
set_option maxHeartbeats 4000000 in
set_option maxRecDepth 100000 in
theorem k_BW_pack_130 {r_z : Int32} {mc_z : Int32} {ms_z : Int32} {ml_z : Int32} {dn_z : Int32} {df_z : Nat → Int32} {laf_z : Nat → Int32} {eaf_z : Nat → Int32} {tn_z : Int32} {tf_z : Nat → Int32} (C : Fx p s m args meth c cd_BW_pack 12 R_BW lw_g (some .boolean)) (hK : va_K (dC, dI) vwCl [(cB, .byte), (cI, .int), (cJ, .long)] s) (hA : ∀ q, s.heap.size ≤ q → A q) (x4 : Int32) (x6 : Int32) (x7 : Int32) (x8 : Int32) (x9 : Int32) (x10 : Int32) (mc : Int32) (ms : Int32) (ml : Int32) (dn : Int32) (df : Nat → Int32) (laf : Nat → Int32) (eaf : Nat → Int32) (gn : Int32) (gf : Nat → Int32) (tn : Int32) (tf : Nat → Int32) (kh51 : Int32 → Int32 → Int32 → Int32 → Int32 → (Nat → Int32) → (Nat → Int32) → Int32 → (Nat → Int32) → Option (Int32 × Int32 × Int32 × Int32 × Int32 × (Nat → Int32) × (Nat → Int32) × (Nat → Int32) × Int32 × (Nat → Int32))) (ih51 : ∀ (x6 : Int32) (x10 : Int32) (mc : Int32) (ms : Int32) (ml : Int32) (laf : Nat → Int32) (eaf : Nat → Int32) (tn : Int32) (tf : Nat → Int32), kh51 x6 x10 mc ms ml laf eaf tn tf = some (r_z, mc_z, ms_z, ml_z, dn_z, df_z, laf_z, eaf_z, tn_z, tf_z) → ∀ (H : Heap) (locs : List Loc), va_P (dC, dI) vwCl (wd_BW_pack bw mt d da la ea g ga t ta hs cB cI cJ mc ms ml dn df laf eaf gn gf tn tf) H → va_D A (wd_BW_pack bw mt d da la ea g ga t ta hs cB cI cJ mc ms ml dn df laf eaf gn gf tn tf) → va_S A s.heap H locs → ∀ (ls : Array Slot), lv_has ls 12 [(0, .ref bw), (4, .int x4), (5, .ref t), (6, .int x6), (7, .int x7), (8, .int x8), (10, .int x10)] → W p l e rm_BW_pack s m args below meth c H locs 0 0 (MQ below (sQi (dC, dI) vwCl [(cB, .byte), (cI, .int), (cJ, .long)] A r_z (wd_BW_pack bw mt d da la ea g ga t ta hs cB cI cJ mc_z ms_z ml_z dn_z df_z laf_z eaf_z gn gf tn_z tf_z)) args s 0 0 A) (F0 m 51 ls [])) (hf : j_BW_pack_130 x6 x9 x10 mc ms ml laf eaf tn tf kh51 = some (r_z, mc_z, ms_z, ml_z, dn_z, df_z, laf_z, eaf_z, tn_z, tf_z)) (hP : va_P (dC, dI) vwCl (wd_BW_pack bw mt d da la ea g ga t ta hs cB cI cJ mc ms ml dn df laf eaf gn gf tn tf) H) (hD : va_D A (wd_BW_pack bw mt d da la ea g ga t ta hs cB cI cJ mc ms ml dn df laf eaf gn gf tn tf)) (hS : va_S A s.heap H locs) (hl : lv_has ls 12 [(0, .ref bw), (4, .int x4), (5, .ref t), (6, .int x6), (7, .int x7), (8, .int x8), (9, .int x9), (10, .int x10)]) : W p l e rm_BW_pack s m args below meth c H locs 0 0 (MQ below (sQi (dC, dI) vwCl [(cB, .byte), (cI, .int), (cJ, .long)] A r_z (wd_BW_pack bw mt d da la ea g ga t ta hs cB cI cJ mc_z ms_z ml_z dn_z df_z laf_z eaf_z gn gf tn_z tf_z)) args s 0 0 A) (F0 m 130 ls []) := by
  obtain ⟨hx, hb, hml, hown, hts, hr, hlocks, hZ⟩ := id C
  unfold j_BW_pack_130 at hf
  refine lv_iload hx hb d_BW_pack_130 (lv_at hl 7 rfl) ?_
  refine lv_iconst (v := 1) hx hb d_BW_pack_132 (by decide) ?_
  refine lv_iload hx hb d_BW_pack_133 (lv_at hl 6 rfl) ?_
  refine s_mmax hx hb (hml.trans hl.1.symm) hown (hts _ w_109) (hts _ w_27) (hts _ w_24) (hts _ w_28) (Nat.le_of_ble_eq_true rfl) (Nat.le_of_ble_eq_true rfl) (Nat.zero_le _) (Nat.zero_le _) d_BW_pack_135 ?_
  refine lv_iadd hx hb d_BW_pack_138 ?_
  refine lv_istore (lv' := [(10, .int (x10 + (mx (1 : Int32) x9))), (0, .ref bw), (4, .int x4), (5, .ref t), (6, .int x6), (7, .int x7), (8, .int x8), (9, .int x9)]) hx hb d_BW_pack_139 hl (by decide) rfl (fun ls hl => ?_)
  refine lv_goto (tgt := 51) hx hb d_BW_pack_141 (by decide) ?_
  exact ih51 x6 (x10 + (mx (1 : Int32) x9)) mc ms ml laf eaf tn tf hf _ _ hP hD hS _ (lv_sub hl [1, 2, 3, 4, 5, 6, 0] rfl)
noncomputable def b_BW_pack_51 (N : Nat) (x4 : Int32) (x7 : Int32) (x8 : Int32) (dn : Int32) (df : Nat → Int32)  (kh51 : Int32 → Int32 → Int32 → Int32 → Int32 → (Nat → Int32) → (Nat → Int32) → Int32 → (Nat → Int32) → Option (Int32 × Int32 × Int32 × Int32 × Int32 × (Nat → Int32) × (Nat → Int32) × (Nat → Int32) × Int32 × (Nat → Int32))) (x6 : Int32) (x10 : Int32) (mc : Int32) (ms : Int32) (ml : Int32) (laf : Nat → Int32) (eaf : Nat → Int32) (tn : Int32) (tf : Nat → Int32) : Option (Int32 × Int32 × Int32 × Int32 × Int32 × (Nat → Int32) × (Nat → Int32) × (Nat → Int32) × Int32 × (Nat → Int32)) :=
  (if x8 < x10 then bd1 (f_Row_count dn) (fun r151 => bd3 (f_BW_addLiterals N x6 r151 (0 : Int32) dn df tn tf) (fun r157 tn_157 tf_157 => as_ (narrow .boolean (.int r157) = .int r157) ((some (r157, mc, ms, ml, dn, df, laf, eaf, tn_157, tf_157) : Option (Int32 × Int32 × Int32 × Int32 × Int32 × (Nat → Int32) × (Nat → Int32) × (Nat → Int32) × Int32 × (Nat → Int32)))))) else bd6 (f_Mat_look N x10 x7 x8 x4 mc dn df laf eaf) (fun r70 mc_70 ms_70 ml_70 laf_70 eaf_70 => (if r70 ≤ 0 then (j_BW_pack_130 x6 r70 x10 mc_70 ms_70 ml_70 laf_70 eaf_70 tn tf kh51) else bd3 (f_BW_addLiterals N x6 x10 (r70 - (4 : Int32)) dn df tn tf) (fun r95 tn_95 tf_95 => (if r95 = 0 then (some ((0 : Int32), mc_70, ms_70, ml_70, dn, df, laf_70, eaf_70, tn_95, tf_95) : Option (Int32 × Int32 × Int32 × Int32 × Int32 × (Nat → Int32) × (Nat → Int32) × (Nat → Int32) × Int32 × (Nat → Int32))) else bd1 (f_Mat_source ms_70) (fun r107 => bd3 (f_BW_addCopy N 8000 (x10 - r107) (r70 - (4 : Int32)) tn_95 tf_95) (fun r115 tn_115 tf_115 => (if r115 = 0 then (some ((0 : Int32), mc_70, ms_70, ml_70, dn, df, laf_70, eaf_70, tn_115, tf_115) : Option (Int32 × Int32 × Int32 × Int32 × Int32 × (Nat → Int32) × (Nat → Int32) × (Nat → Int32) × Int32 × (Nat → Int32))) else (j_BW_pack_130 (x10 + r70) r70 x10 mc_70 ms_70 ml_70 laf_70 eaf_70 tn_115 tf_115 kh51)))))))))
set_option maxHeartbeats 4000000 in
set_option maxRecDepth 100000 in
theorem k_BW_pack_51 {r_z : Int32} {mc_z : Int32} {ms_z : Int32} {ml_z : Int32} {dn_z : Int32} {df_z : Nat → Int32} {laf_z : Nat → Int32} {eaf_z : Nat → Int32} {tn_z : Int32} {tf_z : Nat → Int32} (C : Fx p s m args meth c cd_BW_pack 12 R_BW lw_g (some .boolean)) (hK : va_K (dC, dI) vwCl [(cB, .byte), (cI, .int), (cJ, .long)] s) (hA : ∀ q, s.heap.size ≤ q → A q) (x4 : Int32) (x7 : Int32) (x8 : Int32) (dn : Int32) (df : Nat → Int32) (gn : Int32) (gf : Nat → Int32)  : ∀ (n : Nat) (x6 : Int32) (x10 : Int32) (mc : Int32) (ms : Int32) (ml : Int32) (laf : Nat → Int32) (eaf : Nat → Int32) (tn : Int32) (tf : Nat → Int32), loop9 (b_BW_pack_51 N x4 x7 x8 dn df ) n x6 x10 mc ms ml laf eaf tn tf = some (r_z, mc_z, ms_z, ml_z, dn_z, df_z, laf_z, eaf_z, tn_z, tf_z) → ∀ (H : Heap) (locs : List Loc), va_P (dC, dI) vwCl (wd_BW_pack bw mt d da la ea g ga t ta hs cB cI cJ mc ms ml dn df laf eaf gn gf tn tf) H → va_D A (wd_BW_pack bw mt d da la ea g ga t ta hs cB cI cJ mc ms ml dn df laf eaf gn gf tn tf) → va_S A s.heap H locs → ∀ (ls : Array Slot), lv_has ls 12 [(0, .ref bw), (4, .int x4), (5, .ref t), (6, .int x6), (7, .int x7), (8, .int x8), (10, .int x10)] → W p l e rm_BW_pack s m args below meth c H locs 0 0 (MQ below (sQi (dC, dI) vwCl [(cB, .byte), (cI, .int), (cJ, .long)] A r_z (wd_BW_pack bw mt d da la ea g ga t ta hs cB cI cJ mc_z ms_z ml_z dn_z df_z laf_z eaf_z gn gf tn_z tf_z)) args s 0 0 A) (F0 m 51 ls []) := by
  obtain ⟨hx, hb, hml, hown, hts, hr, hlocks, hZ⟩ := id C
  intro n
  induction n with
  | zero => intro x6 x10 mc ms ml laf eaf tn tf hf; cases hf
  | succ n ih51 =>
    intro x6 x10 mc ms ml laf eaf tn tf hf H locs hP hD hS ls hl
    have hf : b_BW_pack_51 N x4 x7 x8 dn df  (loop9 (b_BW_pack_51 N x4 x7 x8 dn df ) n) x6 x10 mc ms ml laf eaf tn tf = some (r_z, mc_z, ms_z, ml_z, dn_z, df_z, laf_z, eaf_z, tn_z, tf_z) := hf
    generalize loop9 (b_BW_pack_51 N x4 x7 x8 dn df ) n = kh51 at hf ih51
    unfold b_BW_pack_51 at hf
    refine lv_iload hx hb d_BW_pack_51 (lv_at hl 6 rfl) ?_
    refine lv_iload hx hb d_BW_pack_53 (lv_at hl 5 rfl) ?_
    refine lv_icmp_gt (tgt := 144) hx hb d_BW_pack_55 (by decide) (fun c_55 => ?_) (fun c_55 => ?_)
    · have hf := br_pos c_55 hf
      refine lv_aload_n hx hb d_BW_pack_144 rfl (lv_at hl 0 rfl) ?_
      refine lv_iload hx hb d_BW_pack_145 (lv_at hl 3 rfl) ?_
      refine lv_aload_n hx hb d_BW_pack_147 rfl (lv_at hl 0 rfl) ?_
      refine va_get (D := (dC, dI)) (ci := 2) (v := .ref d) (C := R_BW) (T := T_BW) (N := 3) hx hb hts w_49 hown hK hP 0 rfl rfl 2 (by decide) (hts _ w_50) (fun _ h9 => h9) rfl d_BW_pack_148 ?_
      obtain ⟨r151, hc151, hf⟩ := bd1_some hf
      refine s_Vi (As := []) (rest := [.int x6, .ref bw]) (wr := [(bw, .inr (2, [.ref hs, .ref mt, .ref d])), (mt, .inr (3, [.ref d, .ref la, .ref ea, .int mc, .int ms, .int ml])), (da, .inl (cB, 16000, .inl df)), (la, .inl (cI, 4096, .inl laf)), (ea, .inl (cI, 16000, .inl eaf)), (g, .inr (1, [.ref ga, .int gn])), (ga, .inl (cB, 8000, .inl gf)), (t, .inr (1, [.ref ta, .int tn])), (ta, .inl (cB, 8000, .inl tf))]) (ws' := wd_BW_pack bw mt d da la ea g ga t ta hs cB cI cJ mc ms ml dn df laf eaf gn gf tn tf) C.call (c_Row_count l dC dI cB cI cJ d da  dn  hc151) (cwV 0 hts (gd_V w_99 w_10 w_11 w_12 w_13) rfl rfl rfl ⟨rfl, hd_Row_count⟩ ⟨Nat.le_of_ble_eq_true rfl, Nat.le_of_ble_eq_true rfl⟩) rfl hl.1 rfl (Nat.le_of_ble_eq_true rfl) d_BW_pack_151 ⟨Nat.le_of_ble_eq_true rfl, Nat.le_of_ble_eq_true rfl⟩ hZ hK hP hD hS hA 1 2 rfl rfl [2] [0, 1, 3, 4, 5, 6, 7, 8, 9] [0, 1, 9, 2, 3, 4, 5, 6, 7, 8] rfl rfl rfl rfl (by decide) rfl rfl (fun H locs hP hD hS => ?_)
      refine lv_iconst (v := 0) hx hb d_BW_pack_154 (by decide) ?_
      refine lv_aload hx hb d_BW_pack_155 (lv_at hl 2 rfl) ?_
      obtain ⟨r157, tn_157, tf_157, hc157, hf⟩ := bd3_some hf
      refine s_Vi (As := [.int x6, .int r151, .int (0 : Int32), .ref t]) (rest := []) (wr := [(mt, .inr (3, [.ref d, .ref la, .ref ea, .int mc, .int ms, .int ml])), (la, .inl (cI, 4096, .inl laf)), (ea, .inl (cI, 16000, .inl eaf)), (g, .inr (1, [.ref ga, .int gn])), (ga, .inl (cB, 8000, .inl gf))]) (ws' := wd_BW_pack bw mt d da la ea g ga t ta hs cB cI cJ mc ms ml dn df laf eaf gn gf tn_157 tf_157) C.call (c_BW_addLiterals l dC dI cB cI cJ bw d da t ta hs mt  dn df tn tf x6 r151 (0 : Int32) hc157) (cwV 4 hts (gd_V w_100 w_101 w_102 w_46 w_103) rfl rfl rfl ⟨rfl, hd_BW_addLiterals⟩ ⟨Nat.le_of_ble_eq_true rfl, Nat.le_of_ble_eq_true rfl⟩) rfl hl.1 rfl (Nat.le_of_ble_eq_true rfl) d_BW_pack_157 ⟨Nat.le_of_ble_eq_true rfl, Nat.le_of_ble_eq_true rfl⟩ hZ hK hP hD hS hA 2 0 rfl rfl [0, 2, 3, 8, 9] [1, 4, 5, 6, 7] [5, 0, 6, 7, 1, 2, 3, 4, 8, 9] rfl rfl rfl rfl (by decide) rfl rfl (fun H locs hP hD hS => ?_)
      obtain ⟨hnb, hf⟩ := as_some hf
      cases hf
      exact s_zret hx hb hr hnb hlocks hP hK hD hS d_BW_pack_160
    · have hf := br_neg c_55 hf
      refine lv_aload_n hx hb d_BW_pack_58 rfl (lv_at hl 0 rfl) ?_
      refine va_get (D := (dC, dI)) (ci := 2) (v := .ref mt) (C := R_BW) (T := T_BW) (N := 3) hx hb hts w_49 hown hK hP 0 rfl rfl 1 (by decide) (hts _ w_104) (fun _ h9 => h9) rfl d_BW_pack_59 ?_
      refine lv_iload hx hb d_BW_pack_62 (lv_at hl 6 rfl) ?_
      refine lv_iload hx hb d_BW_pack_64 (lv_at hl 4 rfl) ?_
      refine lv_iload hx hb d_BW_pack_66 (lv_at hl 5 rfl) ?_
      refine lv_iload hx hb d_BW_pack_68 (lv_at hl 1 rfl) ?_
      obtain ⟨r70, mc_70, ms_70, ml_70, laf_70, eaf_70, hc70, hf⟩ := bd6_some hf
      refine s_Vi (As := [.int x10, .int x7, .int x8, .int x4]) (rest := []) (wr := [(bw, .inr (2, [.ref hs, .ref mt, .ref d])), (g, .inr (1, [.ref ga, .int gn])), (ga, .inl (cB, 8000, .inl gf)), (t, .inr (1, [.ref ta, .int tn])), (ta, .inl (cB, 8000, .inl tf))]) (ws' := wd_BW_pack bw mt d da la ea g ga t ta hs cB cI cJ mc_70 ms_70 ml_70 dn df laf_70 eaf_70 gn gf tn tf) C.call (c_Mat_look l dC dI cB cI cJ mt d da la ea  mc ms ml dn df laf eaf x10 x7 x8 x4 hc70) (cwV 4 hts (gd_V w_105 w_106 w_107 w_64 w_108) rfl rfl rfl ⟨rfl, hd_Mat_look⟩ ⟨Nat.le_of_ble_eq_true rfl, Nat.le_of_ble_eq_true rfl⟩) rfl hl.1 rfl (Nat.le_of_ble_eq_true rfl) d_BW_pack_70 ⟨Nat.le_of_ble_eq_true rfl, Nat.le_of_ble_eq_true rfl⟩ hZ hK hP hD hS hA 3 1 rfl rfl [1, 2, 3, 4, 5] [0, 6, 7, 8, 9] [0, 5, 6, 7, 8, 9, 1, 2, 3, 4] rfl rfl rfl rfl (by decide) rfl rfl (fun H locs hP hD hS => ?_)
      refine lv_istore (lv' := [(9, .int r70), (0, .ref bw), (4, .int x4), (5, .ref t), (6, .int x6), (7, .int x7), (8, .int x8), (10, .int x10)]) hx hb d_BW_pack_73 hl (by decide) rfl (fun ls hl => ?_)
      refine lv_iload hx hb d_BW_pack_75 (lv_at hl 0 rfl) ?_
      refine lv_if_le (tgt := 130) hx hb d_BW_pack_77 (by decide) (fun c_77 => ?_) (fun c_77 => ?_)
      · have hf := br_pos c_77 hf
        exact k_BW_pack_130 C hK hA x4 x6 x7 x8 r70 x10 mc_70 ms_70 ml_70 dn df laf_70 eaf_70 gn gf tn tf kh51 ih51 hf hP hD hS (lv_sub hl [1, 2, 3, 4, 5, 6, 0, 7] rfl)
      · have hf := br_neg c_77 hf
        refine lv_iload hx hb d_BW_pack_80 (lv_at hl 0 rfl) ?_
        refine lv_iconst (v := 4) hx hb d_BW_pack_82 (by decide) ?_
        refine lv_isub hx hb d_BW_pack_83 ?_
        refine lv_istore (lv' := [(11, .int (r70 - (4 : Int32))), (9, .int r70), (0, .ref bw), (4, .int x4), (5, .ref t), (6, .int x6), (7, .int x7), (8, .int x8), (10, .int x10)]) hx hb d_BW_pack_84 hl (by decide) rfl (fun ls hl => ?_)
        refine lv_aload_n hx hb d_BW_pack_86 rfl (lv_at hl 2 rfl) ?_
        refine lv_iload hx hb d_BW_pack_87 (lv_at hl 5 rfl) ?_
        refine lv_iload hx hb d_BW_pack_89 (lv_at hl 8 rfl) ?_
        refine lv_iload hx hb d_BW_pack_91 (lv_at hl 0 rfl) ?_
        refine lv_aload hx hb d_BW_pack_93 (lv_at hl 4 rfl) ?_
        obtain ⟨r95, tn_95, tf_95, hc95, hf⟩ := bd3_some hf
        refine s_Vi (As := [.int x6, .int x10, .int (r70 - (4 : Int32)), .ref t]) (rest := []) (wr := [(mt, .inr (3, [.ref d, .ref la, .ref ea, .int mc_70, .int ms_70, .int ml_70])), (la, .inl (cI, 4096, .inl laf_70)), (ea, .inl (cI, 16000, .inl eaf_70)), (g, .inr (1, [.ref ga, .int gn])), (ga, .inl (cB, 8000, .inl gf))]) (ws' := wd_BW_pack bw mt d da la ea g ga t ta hs cB cI cJ mc_70 ms_70 ml_70 dn df laf_70 eaf_70 gn gf tn_95 tf_95) C.call (c_BW_addLiterals l dC dI cB cI cJ bw d da t ta hs mt  dn df tn tf x6 x10 (r70 - (4 : Int32)) hc95) (cwV 4 hts (gd_V w_100 w_101 w_102 w_46 w_103) rfl rfl rfl ⟨rfl, hd_BW_addLiterals⟩ ⟨Nat.le_of_ble_eq_true rfl, Nat.le_of_ble_eq_true rfl⟩) rfl hl.1 rfl (Nat.le_of_ble_eq_true rfl) d_BW_pack_95 ⟨Nat.le_of_ble_eq_true rfl, Nat.le_of_ble_eq_true rfl⟩ hZ hK hP hD hS hA 2 0 rfl rfl [0, 2, 3, 8, 9] [1, 4, 5, 6, 7] [5, 0, 6, 7, 1, 2, 3, 4, 8, 9] rfl rfl rfl rfl (by decide) rfl rfl (fun H locs hP hD hS => ?_)
        refine lv_if_eq (tgt := 121) hx hb d_BW_pack_98 (by decide) (fun c_98 => ?_) (fun c_98 => ?_)
        · have hf := br_pos c_98 hf
          refine lv_iconst (v := 0) hx hb d_BW_pack_121 (by decide) ?_
          cases hf
          exact s_zret hx hb hr (by decide) hlocks hP hK hD hS d_BW_pack_122
        · have hf := br_neg c_98 hf
          refine lv_iload hx hb d_BW_pack_101 (lv_at hl 8 rfl) ?_
          refine lv_aload_n hx hb d_BW_pack_103 rfl (lv_at hl 2 rfl) ?_
          refine va_get (D := (dC, dI)) (ci := 2) (v := .ref mt) (C := R_BW) (T := T_BW) (N := 3) hx hb hts w_49 hown hK hP 0 rfl rfl 1 (by decide) (hts _ w_104) (fun _ h9 => h9) rfl d_BW_pack_104 ?_
          obtain ⟨r107, hc107, hf⟩ := bd1_some hf
          refine s_Vi (As := []) (rest := [.int x10]) (wr := [(bw, .inr (2, [.ref hs, .ref mt, .ref d])), (d, .inr (1, [.ref da, .int dn])), (da, .inl (cB, 16000, .inl df)), (la, .inl (cI, 4096, .inl laf_70)), (ea, .inl (cI, 16000, .inl eaf_70)), (g, .inr (1, [.ref ga, .int gn])), (ga, .inl (cB, 8000, .inl gf)), (t, .inr (1, [.ref ta, .int tn_95])), (ta, .inl (cB, 8000, .inl tf_95))]) (ws' := wd_BW_pack bw mt d da la ea g ga t ta hs cB cI cJ mc_70 ms_70 ml_70 dn df laf_70 eaf_70 gn gf tn_95 tf_95) C.call (c_Mat_source l dC dI cB cI cJ mt d la ea  mc_70 ms_70 ml_70  hc107) (cwV 0 hts (gd_V w_110 w_111 w_112 w_64 w_113) rfl rfl rfl ⟨rfl, hd_Mat_source⟩ ⟨Nat.le_of_ble_eq_true rfl, Nat.le_of_ble_eq_true rfl⟩) rfl hl.1 rfl (Nat.le_of_ble_eq_true rfl) d_BW_pack_107 ⟨Nat.le_of_ble_eq_true rfl, Nat.le_of_ble_eq_true rfl⟩ hZ hK hP hD hS hA 3 1 rfl rfl [1] [0, 2, 3, 4, 5, 6, 7, 8, 9] [0, 9, 1, 2, 3, 4, 5, 6, 7, 8] rfl rfl rfl rfl (by decide) rfl rfl (fun H locs hP hD hS => ?_)
          refine lv_isub hx hb d_BW_pack_110 ?_
          refine lv_iload hx hb d_BW_pack_111 (lv_at hl 0 rfl) ?_
          refine lv_aload hx hb d_BW_pack_113 (lv_at hl 4 rfl) ?_
          obtain ⟨r115, tn_115, tf_115, hc115, hf⟩ := bd3_some hf
          refine s_Si (As := [.int (x10 - r107), .int (r70 - (4 : Int32)), .ref t]) (rest := []) (wr := [(bw, .inr (2, [.ref hs, .ref mt, .ref d])), (mt, .inr (3, [.ref d, .ref la, .ref ea, .int mc_70, .int ms_70, .int ml_70])), (d, .inr (1, [.ref da, .int dn])), (da, .inl (cB, 16000, .inl df)), (la, .inl (cI, 4096, .inl laf_70)), (ea, .inl (cI, 16000, .inl eaf_70)), (g, .inr (1, [.ref ga, .int gn])), (ga, .inl (cB, 8000, .inl gf))]) (ws' := wd_BW_pack bw mt d da la ea g ga t ta hs cB cI cJ mc_70 ms_70 ml_70 dn df laf_70 eaf_70 gn gf tn_115 tf_115) C.call (c_BW_addCopy l dC dI cB cI cJ t ta 8000 tn_95 tf_95 (x10 - r107) (r70 - (4 : Int32)) hc115) (va_cwS 3 hts (gd_S w_114 w_115 w_46 w_116) rfl rfl rfl hd_BW_addCopy ⟨Nat.le_of_ble_eq_true rfl, Nat.le_of_ble_eq_true rfl⟩) rfl hl.1 rfl (Nat.le_of_ble_eq_true rfl) d_BW_pack_115 ⟨Nat.le_of_ble_eq_true rfl, Nat.le_of_ble_eq_true rfl⟩ hZ hK hP hD hS hA [8, 9] [0, 1, 2, 3, 4, 5, 6, 7] [0, 1, 2, 3, 4, 5, 6, 7, 8, 9] rfl rfl rfl rfl (by decide) rfl rfl (fun H locs hP hD hS => ?_)
          refine lv_if_ne (tgt := 123) hx hb d_BW_pack_118 (by decide) (fun c_118 => ?_) (fun c_118 => ?_)
          · have hf := br_neg c_118 hf
            refine lv_iload hx hb d_BW_pack_123 (lv_at hl 8 rfl) ?_
            refine lv_iload hx hb d_BW_pack_125 (lv_at hl 1 rfl) ?_
            refine lv_iadd hx hb d_BW_pack_127 ?_
            refine lv_istore (lv' := [(6, .int (x10 + r70)), (11, .int (r70 - (4 : Int32))), (9, .int r70), (0, .ref bw), (4, .int x4), (5, .ref t), (7, .int x7), (8, .int x8), (10, .int x10)]) hx hb d_BW_pack_128 hl (by decide) rfl (fun ls hl => ?_)
            exact k_BW_pack_130 C hK hA x4 (x10 + r70) x7 x8 r70 x10 mc_70 ms_70 ml_70 dn df laf_70 eaf_70 gn gf tn_115 tf_115 kh51 ih51 hf hP hD hS (lv_sub hl [3, 4, 5, 0, 6, 7, 2, 8] rfl)
          · have hf := br_pos c_118 hf
            refine lv_iconst (v := 0) hx hb d_BW_pack_121 (by decide) ?_
            cases hf
            exact s_zret hx hb hr (by decide) hlocks hP hK hD hS d_BW_pack_122
noncomputable def j_BW_pack_0 (N : Nat) (x2 : Int32) (x3 : Int32) (x4 : Int32) (mc : Int32) (ms : Int32) (ml : Int32) (dn : Int32) (df : Nat → Int32) (laf : Nat → Int32) (eaf : Nat → Int32) (gn : Int32) (gf : Nat → Int32) (tn : Int32) (tf : Nat → Int32)  : Option (Int32 × Int32 × Int32 × Int32 × Int32 × (Nat → Int32) × (Nat → Int32) × (Nat → Int32) × Int32 × (Nat → Int32)) :=
  bd1 (f_Row_count dn) (fun r4 => bd3 (f_Row_addFrom 16000 8000 x2 x3 dn df gn gf) (fun r16 dn_16 df_16 => (if r16 = 0 then (some ((0 : Int32), mc, ms, ml, dn_16, df_16, laf, eaf, tn, tf) : Option (Int32 × Int32 × Int32 × Int32 × Int32 × (Nat → Int32) × (Nat → Int32) × (Nat → Int32) × Int32 × (Nat → Int32))) else bd1 (f_Row_count dn_16) (fun r28 => bd1 (f_Row_count dn_16) (fun r39 => (loop9 (b_BW_pack_51 N x4 (r28 - (5 : Int32)) (r39 - (12 : Int32)) dn_16 df_16 ) N r4 r4 mc ms ml laf eaf tn tf))))))
set_option maxHeartbeats 4000000 in
set_option maxRecDepth 100000 in
theorem k_BW_pack_0 {r_z : Int32} {mc_z : Int32} {ms_z : Int32} {ml_z : Int32} {dn_z : Int32} {df_z : Nat → Int32} {laf_z : Nat → Int32} {eaf_z : Nat → Int32} {tn_z : Int32} {tf_z : Nat → Int32} (C : Fx p s m args meth c cd_BW_pack 12 R_BW lw_g (some .boolean)) (hK : va_K (dC, dI) vwCl [(cB, .byte), (cI, .int), (cJ, .long)] s) (hA : ∀ q, s.heap.size ≤ q → A q) (x2 : Int32) (x3 : Int32) (x4 : Int32) (mc : Int32) (ms : Int32) (ml : Int32) (dn : Int32) (df : Nat → Int32) (laf : Nat → Int32) (eaf : Nat → Int32) (gn : Int32) (gf : Nat → Int32) (tn : Int32) (tf : Nat → Int32)  (hf : j_BW_pack_0 N x2 x3 x4 mc ms ml dn df laf eaf gn gf tn tf  = some (r_z, mc_z, ms_z, ml_z, dn_z, df_z, laf_z, eaf_z, tn_z, tf_z)) (hP : va_P (dC, dI) vwCl (wd_BW_pack bw mt d da la ea g ga t ta hs cB cI cJ mc ms ml dn df laf eaf gn gf tn tf) H) (hD : va_D A (wd_BW_pack bw mt d da la ea g ga t ta hs cB cI cJ mc ms ml dn df laf eaf gn gf tn tf)) (hS : va_S A s.heap H locs) (hl : lv_has ls 12 [(0, .ref bw), (1, .ref g), (2, .int x2), (3, .int x3), (4, .int x4), (5, .ref t)]) : W p l e rm_BW_pack s m args below meth c H locs 0 0 (MQ below (sQi (dC, dI) vwCl [(cB, .byte), (cI, .int), (cJ, .long)] A r_z (wd_BW_pack bw mt d da la ea g ga t ta hs cB cI cJ mc_z ms_z ml_z dn_z df_z laf_z eaf_z gn gf tn_z tf_z)) args s 0 0 A) (F0 m 0 ls []) := by
  obtain ⟨hx, hb, hml, hown, hts, hr, hlocks, hZ⟩ := id C
  unfold j_BW_pack_0 at hf
  refine lv_aload_n hx hb d_BW_pack_0 rfl (lv_at hl 0 rfl) ?_
  refine va_get (D := (dC, dI)) (ci := 2) (v := .ref d) (C := R_BW) (T := T_BW) (N := 3) hx hb hts w_49 hown hK hP 0 rfl rfl 2 (by decide) (hts _ w_50) (fun _ h9 => h9) rfl d_BW_pack_1 ?_
  obtain ⟨r4, hc4, hf⟩ := bd1_some hf
  refine s_Vi (As := []) (rest := []) (wr := [(bw, .inr (2, [.ref hs, .ref mt, .ref d])), (mt, .inr (3, [.ref d, .ref la, .ref ea, .int mc, .int ms, .int ml])), (da, .inl (cB, 16000, .inl df)), (la, .inl (cI, 4096, .inl laf)), (ea, .inl (cI, 16000, .inl eaf)), (g, .inr (1, [.ref ga, .int gn])), (ga, .inl (cB, 8000, .inl gf)), (t, .inr (1, [.ref ta, .int tn])), (ta, .inl (cB, 8000, .inl tf))]) (ws' := wd_BW_pack bw mt d da la ea g ga t ta hs cB cI cJ mc ms ml dn df laf eaf gn gf tn tf) C.call (c_Row_count l dC dI cB cI cJ d da  dn  hc4) (cwV 0 hts (gd_V w_99 w_10 w_11 w_12 w_13) rfl rfl rfl ⟨rfl, hd_Row_count⟩ ⟨Nat.le_of_ble_eq_true rfl, Nat.le_of_ble_eq_true rfl⟩) rfl hl.1 rfl (Nat.le_of_ble_eq_true rfl) d_BW_pack_4 ⟨Nat.le_of_ble_eq_true rfl, Nat.le_of_ble_eq_true rfl⟩ hZ hK hP hD hS hA 1 2 rfl rfl [2] [0, 1, 3, 4, 5, 6, 7, 8, 9] [0, 1, 9, 2, 3, 4, 5, 6, 7, 8] rfl rfl rfl rfl (by decide) rfl rfl (fun H locs hP hD hS => ?_)
  refine lv_istore (lv' := [(6, .int r4), (0, .ref bw), (1, .ref g), (2, .int x2), (3, .int x3), (4, .int x4), (5, .ref t)]) hx hb d_BW_pack_7 hl (by decide) rfl (fun ls hl => ?_)
  refine lv_aload_n hx hb d_BW_pack_9 rfl (lv_at hl 1 rfl) ?_
  refine va_get (D := (dC, dI)) (ci := 2) (v := .ref d) (C := R_BW) (T := T_BW) (N := 3) hx hb hts w_49 hown hK hP 0 rfl rfl 2 (by decide) (hts _ w_50) (fun _ h9 => h9) rfl d_BW_pack_10 ?_
  refine lv_aload_n hx hb d_BW_pack_13 rfl (lv_at hl 2 rfl) ?_
  refine lv_iload_n hx hb d_BW_pack_14 rfl (lv_at hl 3 rfl) ?_
  refine lv_iload_n hx hb d_BW_pack_15 rfl (lv_at hl 4 rfl) ?_
  obtain ⟨r16, dn_16, df_16, hc16, hf⟩ := bd3_some hf
  refine s_Vi (As := [.ref g, .int x2, .int x3]) (rest := []) (wr := [(bw, .inr (2, [.ref hs, .ref mt, .ref d])), (mt, .inr (3, [.ref d, .ref la, .ref ea, .int mc, .int ms, .int ml])), (la, .inl (cI, 4096, .inl laf)), (ea, .inl (cI, 16000, .inl eaf)), (t, .inr (1, [.ref ta, .int tn])), (ta, .inl (cB, 8000, .inl tf))]) (ws' := wd_BW_pack bw mt d da la ea g ga t ta hs cB cI cJ mc ms ml dn_16 df_16 laf eaf gn gf tn tf) C.call (c_Row_addFrom l dC dI cB cI cJ d da g ga 16000 8000 dn df gn gf x2 x3 hc16) (cwV 3 hts (gd_V w_51 w_19 w_20 w_12 w_21) rfl rfl rfl ⟨rfl, hd_Row_addFrom⟩ ⟨Nat.le_of_ble_eq_true rfl, Nat.le_of_ble_eq_true rfl⟩) rfl hl.1 rfl (Nat.le_of_ble_eq_true rfl) d_BW_pack_16 ⟨Nat.le_of_ble_eq_true rfl, Nat.le_of_ble_eq_true rfl⟩ hZ hK hP hD hS hA 1 2 rfl rfl [2, 3, 6, 7] [0, 1, 4, 5, 8, 9] [0, 1, 6, 7, 2, 3, 8, 9, 4, 5] rfl rfl rfl rfl (by decide) rfl rfl (fun H locs hP hD hS => ?_)
  refine lv_if_ne (tgt := 24) hx hb d_BW_pack_19 (by decide) (fun c_19 => ?_) (fun c_19 => ?_)
  · have hf := br_neg c_19 hf
    refine lv_aload_n hx hb d_BW_pack_24 rfl (lv_at hl 1 rfl) ?_
    refine va_get (D := (dC, dI)) (ci := 2) (v := .ref d) (C := R_BW) (T := T_BW) (N := 3) hx hb hts w_49 hown hK hP 0 rfl rfl 2 (by decide) (hts _ w_50) (fun _ h9 => h9) rfl d_BW_pack_25 ?_
    obtain ⟨r28, hc28, hf⟩ := bd1_some hf
    refine s_Vi (As := []) (rest := []) (wr := [(bw, .inr (2, [.ref hs, .ref mt, .ref d])), (mt, .inr (3, [.ref d, .ref la, .ref ea, .int mc, .int ms, .int ml])), (da, .inl (cB, 16000, .inl df_16)), (la, .inl (cI, 4096, .inl laf)), (ea, .inl (cI, 16000, .inl eaf)), (g, .inr (1, [.ref ga, .int gn])), (ga, .inl (cB, 8000, .inl gf)), (t, .inr (1, [.ref ta, .int tn])), (ta, .inl (cB, 8000, .inl tf))]) (ws' := wd_BW_pack bw mt d da la ea g ga t ta hs cB cI cJ mc ms ml dn_16 df_16 laf eaf gn gf tn tf) C.call (c_Row_count l dC dI cB cI cJ d da  dn_16  hc28) (cwV 0 hts (gd_V w_99 w_10 w_11 w_12 w_13) rfl rfl rfl ⟨rfl, hd_Row_count⟩ ⟨Nat.le_of_ble_eq_true rfl, Nat.le_of_ble_eq_true rfl⟩) rfl hl.1 rfl (Nat.le_of_ble_eq_true rfl) d_BW_pack_28 ⟨Nat.le_of_ble_eq_true rfl, Nat.le_of_ble_eq_true rfl⟩ hZ hK hP hD hS hA 1 2 rfl rfl [2] [0, 1, 3, 4, 5, 6, 7, 8, 9] [0, 1, 9, 2, 3, 4, 5, 6, 7, 8] rfl rfl rfl rfl (by decide) rfl rfl (fun H locs hP hD hS => ?_)
    refine lv_iconst (v := 5) hx hb d_BW_pack_31 (by decide) ?_
    refine lv_isub hx hb d_BW_pack_32 ?_
    refine lv_istore (lv' := [(7, .int (r28 - (5 : Int32))), (6, .int r4), (0, .ref bw), (1, .ref g), (2, .int x2), (3, .int x3), (4, .int x4), (5, .ref t)]) hx hb d_BW_pack_33 hl (by decide) rfl (fun ls hl => ?_)
    refine lv_aload_n hx hb d_BW_pack_35 rfl (lv_at hl 2 rfl) ?_
    refine va_get (D := (dC, dI)) (ci := 2) (v := .ref d) (C := R_BW) (T := T_BW) (N := 3) hx hb hts w_49 hown hK hP 0 rfl rfl 2 (by decide) (hts _ w_50) (fun _ h9 => h9) rfl d_BW_pack_36 ?_
    obtain ⟨r39, hc39, hf⟩ := bd1_some hf
    refine s_Vi (As := []) (rest := []) (wr := [(bw, .inr (2, [.ref hs, .ref mt, .ref d])), (mt, .inr (3, [.ref d, .ref la, .ref ea, .int mc, .int ms, .int ml])), (da, .inl (cB, 16000, .inl df_16)), (la, .inl (cI, 4096, .inl laf)), (ea, .inl (cI, 16000, .inl eaf)), (g, .inr (1, [.ref ga, .int gn])), (ga, .inl (cB, 8000, .inl gf)), (t, .inr (1, [.ref ta, .int tn])), (ta, .inl (cB, 8000, .inl tf))]) (ws' := wd_BW_pack bw mt d da la ea g ga t ta hs cB cI cJ mc ms ml dn_16 df_16 laf eaf gn gf tn tf) C.call (c_Row_count l dC dI cB cI cJ d da  dn_16  hc39) (cwV 0 hts (gd_V w_99 w_10 w_11 w_12 w_13) rfl rfl rfl ⟨rfl, hd_Row_count⟩ ⟨Nat.le_of_ble_eq_true rfl, Nat.le_of_ble_eq_true rfl⟩) rfl hl.1 rfl (Nat.le_of_ble_eq_true rfl) d_BW_pack_39 ⟨Nat.le_of_ble_eq_true rfl, Nat.le_of_ble_eq_true rfl⟩ hZ hK hP hD hS hA 1 2 rfl rfl [2] [0, 1, 3, 4, 5, 6, 7, 8, 9] [0, 1, 9, 2, 3, 4, 5, 6, 7, 8] rfl rfl rfl rfl (by decide) rfl rfl (fun H locs hP hD hS => ?_)
    refine lv_bipush (v := 12) hx hb d_BW_pack_42 (by decide) ?_
    refine lv_isub hx hb d_BW_pack_44 ?_
    refine lv_istore (lv' := [(8, .int (r39 - (12 : Int32))), (7, .int (r28 - (5 : Int32))), (6, .int r4), (0, .ref bw), (1, .ref g), (2, .int x2), (3, .int x3), (4, .int x4), (5, .ref t)]) hx hb d_BW_pack_45 hl (by decide) rfl (fun ls hl => ?_)
    refine lv_iload hx hb d_BW_pack_47 (lv_at hl 2 rfl) ?_
    refine lv_istore (lv' := [(10, .int r4), (8, .int (r39 - (12 : Int32))), (7, .int (r28 - (5 : Int32))), (6, .int r4), (0, .ref bw), (1, .ref g), (2, .int x2), (3, .int x3), (4, .int x4), (5, .ref t)]) hx hb d_BW_pack_49 hl (by decide) rfl (fun ls hl => ?_)
    exact k_BW_pack_51 C hK hA x4 (r28 - (5 : Int32)) (r39 - (12 : Int32)) dn_16 df_16 gn gf  N r4 r4 mc ms ml laf eaf tn tf hf _ _ hP hD hS _ (lv_sub hl [4, 8, 9, 3, 2, 1, 0] rfl)
  · have hf := br_pos c_19 hf
    refine lv_iconst (v := 0) hx hb d_BW_pack_22 (by decide) ?_
    cases hf
    exact s_zret hx hb hr (by decide) hlocks hP hK hD hS d_BW_pack_23
end
noncomputable abbrev f_BW_pack (N : Nat) (x2 : Int32) (x3 : Int32) (x4 : Int32) (mc : Int32) (ms : Int32) (ml : Int32) (dn : Int32) (df : Nat → Int32) (laf : Nat → Int32) (eaf : Nat → Int32) (gn : Int32) (gf : Nat → Int32) (tn : Int32) (tf : Nat → Int32) : Option (Int32 × Int32 × Int32 × Int32 × Int32 × (Nat → Int32) × (Nat → Int32) × (Nat → Int32) × Int32 × (Nat → Int32)) := j_BW_pack_0 N x2 x3 x4 mc ms ml dn df laf eaf gn gf tn tf
set_option maxRecDepth 100000 in
theorem c_BW_pack {N : Nat} (l : Launch) (dC : Nat → ClassId) (dI : Nat → Nat → Nat) (cB cI cJ : ClassId) (bw mt d da la ea g ga t ta hs : Nat) (mc : Int32) (ms : Int32) (ml : Int32) (dn : Int32) (df : Nat → Int32) (laf : Nat → Int32) (eaf : Nat → Int32) (gn : Int32) (gf : Nat → Int32) (tn : Int32) (tf : Nat → Int32) (x2 : Int32) (x3 : Int32) (x4 : Int32) {r_z : Int32} {mc_z : Int32} {ms_z : Int32} {ml_z : Int32} {dn_z : Int32} {df_z : Nat → Int32} {laf_z : Nat → Int32} {eaf_z : Nat → Int32} {tn_z : Int32} {tf_z : Nat → Int32} (hf : f_BW_pack N x2 x3 x4 mc ms ml dn df laf eaf gn gf tn tf = some (r_z, mc_z, ms_z, ml_z, dn_z, df_z, laf_z, eaf_z, tn_z, tf_z)) : MetI l y_BW_pack ws_BW_pack rm_BW_pack (dC, dI) vwCl [(cB, .byte), (cI, .int), (cJ, .long)] [.ref bw, .ref g, .int x2, .int x3, .int x4, .ref t] (wd_BW_pack bw mt d da la ea g ga t ta hs cB cI cJ mc ms ml dn df laf eaf gn gf tn tf) r_z (wd_BW_pack bw mt d da la ea g ga t ta hs cB cI cJ mc_z ms_z ml_z dn_z df_z laf_z eaf_z gn gf tn_z tf_z) 0 0 :=
  s_ofi (bytes := cd_BW_pack) (maxL := 12) (ret := (some .boolean)) (by decide) rfl (Nat.le_of_ble_eq_true rfl) (fun p e s m below meth c A ls C hK hA hP hD hS hl => k_BW_pack_0 C hK hA x2 x3 x4 mc ms ml dn df laf eaf gn gf tn tf hf hP hD hS (lv_sub hl [0, 1, 2, 3, 4, 5] rfl))

abbrev wd_BW_startOver (bw mt d da la hs hsa ea : Nat) (cB cI cJ : ClassId) (mc : Int32) (ms : Int32) (ml : Int32) (dn : Int32) (df : Nat → Int32) (laf : Nat → Int32) (hsn : Int32) (hsf : Nat → Int32) : va_W := [(bw, .inr (2, [.ref hs, .ref mt, .ref d])), (mt, .inr (3, [.ref d, .ref la, .ref ea, .int mc, .int ms, .int ml])), (d, .inr (1, [.ref da, .int dn])), (da, .inl (cB, 16000, .inl df)), (la, .inl (cI, 4096, .inl laf)), (hs, .inr (1, [.ref hsa, .int hsn])), (hsa, .inl (cB, 8000, .inl hsf))]
abbrev rm_BW_startOver : Room := { frames := 4, cells := 0, slots := 0, locals := 84 }
section
variable {p : Program} {l : Launch} {e : Env} {s : State} {m : MethodId} {args : Array Value} {below : List Frame} {meth : Method} {c : Code} {dC : Nat → ClassId} {dI : Nat → Nat → Nat} {A : Nat → Prop} {cB cI cJ : ClassId} {H : Heap} {locs : List Loc} {ls : Array Slot} {N : Nat} {bw mt d da la hs hsa ea : Nat}
noncomputable def j_BW_startOver_0 (N : Nat) (dn : Int32) (df : Nat → Int32) (laf : Nat → Int32) (hsn : Int32) (hsf : Nat → Int32)  : Option (Int32 × Int32 × (Nat → Int32) × (Nat → Int32)) :=
  bd4 (f_Mat_startOver N dn df laf hsn hsf) (fun mc_8 dn_8 df_8 laf_8 => (some (mc_8, dn_8, df_8, laf_8) : Option (Int32 × Int32 × (Nat → Int32) × (Nat → Int32))))
set_option maxHeartbeats 4000000 in
set_option maxRecDepth 100000 in
theorem k_BW_startOver_0 {mc_z : Int32} {dn_z : Int32} {df_z : Nat → Int32} {laf_z : Nat → Int32} (C : Fx p s m args meth c cd_BW_startOver 1 R_BW lw_g none) (hK : va_K (dC, dI) vwCl [(cB, .byte), (cI, .int), (cJ, .long)] s) (hA : ∀ q, s.heap.size ≤ q → A q) (mc : Int32) (ms : Int32) (ml : Int32) (dn : Int32) (df : Nat → Int32) (laf : Nat → Int32) (hsn : Int32) (hsf : Nat → Int32)  (hf : j_BW_startOver_0 N dn df laf hsn hsf  = some (mc_z, dn_z, df_z, laf_z)) (hP : va_P (dC, dI) vwCl (wd_BW_startOver bw mt d da la hs hsa ea cB cI cJ mc ms ml dn df laf hsn hsf) H) (hD : va_D A (wd_BW_startOver bw mt d da la hs hsa ea cB cI cJ mc ms ml dn df laf hsn hsf)) (hS : va_S A s.heap H locs) (hl : lv_has ls 1 [(0, .ref bw)]) : W p l e rm_BW_startOver s m args below meth c H locs 0 0 (MQ below (sQv (dC, dI) vwCl [(cB, .byte), (cI, .int), (cJ, .long)] A (wd_BW_startOver bw mt d da la hs hsa ea cB cI cJ mc_z ms ml dn_z df_z laf_z hsn hsf)) args s 0 0 A) (F0 m 0 ls []) := by
  obtain ⟨hx, hb, hml, hown, hts, hr, hlocks, hZ⟩ := id C
  unfold j_BW_startOver_0 at hf
  refine lv_aload_n hx hb d_BW_startOver_0 rfl (lv_at hl 0 rfl) ?_
  refine va_get (D := (dC, dI)) (ci := 2) (v := .ref mt) (C := R_BW) (T := T_BW) (N := 3) hx hb hts w_49 hown hK hP 0 rfl rfl 1 (by decide) (hts _ w_104) (fun _ h9 => h9) rfl d_BW_startOver_1 ?_
  refine lv_aload_n hx hb d_BW_startOver_4 rfl (lv_at hl 0 rfl) ?_
  refine va_get (D := (dC, dI)) (ci := 2) (v := .ref hs) (C := R_BW) (T := T_BW) (N := 3) hx hb hts w_49 hown hK hP 0 rfl rfl 0 (by decide) (hts _ w_122) (fun _ h9 => h9) rfl d_BW_startOver_5 ?_
  obtain ⟨mc_8, dn_8, df_8, laf_8, hc8, hf⟩ := bd4_some hf
  refine s_Vv (As := [.ref hs]) (rest := []) (wr := [(bw, .inr (2, [.ref hs, .ref mt, .ref d]))]) (ws' := wd_BW_startOver bw mt d da la hs hsa ea cB cI cJ mc_8 ms ml dn_8 df_8 laf_8 hsn hsf) C.call (c_Mat_startOver l dC dI cB cI cJ mt d da la hs hsa ea  mc ms ml dn df laf hsn hsf  hc8) (cwV 1 hts (gd_V w_123 w_124 w_125 w_64 w_126) rfl rfl rfl ⟨rfl, hd_Mat_startOver⟩ ⟨Nat.le_of_ble_eq_true rfl, Nat.le_of_ble_eq_true rfl⟩) rfl hl.1 rfl (Nat.le_of_ble_eq_true rfl) d_BW_startOver_8 ⟨Nat.le_of_ble_eq_true rfl, Nat.le_of_ble_eq_true rfl⟩ hZ hK hP hD hS hA 3 1 rfl rfl [1, 2, 3, 4, 5, 6] [0] [0, 1, 2, 3, 4, 5, 6] rfl rfl rfl rfl (by decide) rfl rfl (fun H locs hP hD hS => ?_)
  cases hf
  exact s_vret hx hb hr hlocks hP hK hD hS d_BW_startOver_11
end
noncomputable abbrev f_BW_startOver (N : Nat) (dn : Int32) (df : Nat → Int32) (laf : Nat → Int32) (hsn : Int32) (hsf : Nat → Int32) : Option (Int32 × Int32 × (Nat → Int32) × (Nat → Int32)) := j_BW_startOver_0 N dn df laf hsn hsf
set_option maxRecDepth 100000 in
theorem c_BW_startOver {N : Nat} (l : Launch) (dC : Nat → ClassId) (dI : Nat → Nat → Nat) (cB cI cJ : ClassId) (bw mt d da la hs hsa ea : Nat) (mc : Int32) (ms : Int32) (ml : Int32) (dn : Int32) (df : Nat → Int32) (laf : Nat → Int32) (hsn : Int32) (hsf : Nat → Int32)  {mc_z : Int32} {dn_z : Int32} {df_z : Nat → Int32} {laf_z : Nat → Int32} (hf : f_BW_startOver N dn df laf hsn hsf = some (mc_z, dn_z, df_z, laf_z)) : MetV l y_BW_startOver ws_BW_startOver rm_BW_startOver (dC, dI) vwCl [(cB, .byte), (cI, .int), (cJ, .long)] [.ref bw] (wd_BW_startOver bw mt d da la hs hsa ea cB cI cJ mc ms ml dn df laf hsn hsf)  (wd_BW_startOver bw mt d da la hs hsa ea cB cI cJ mc_z ms ml dn_z df_z laf_z hsn hsf) 0 0 :=
  s_ofv (bytes := cd_BW_startOver) (maxL := 1) (ret := none) (by decide) rfl (Nat.le_of_ble_eq_true rfl) (fun p e s m below meth c A ls C hK hA hP hD hS hl => k_BW_startOver_0 C hK hA mc ms ml dn df laf hsn hsf hf hP hD hS (lv_sub hl [0] rfl))
