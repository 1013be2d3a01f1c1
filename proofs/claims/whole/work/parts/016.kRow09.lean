abbrev wd_Row_addWord (r ra : Nat) (cB cI cJ : ClassId) (rL : Nat) (rn : Int32) (rf : Nat → Int32) : va_W := [(r, .inr (1, [.ref ra, .int rn])), (ra, .inl (cB, rL, .inl rf))]
abbrev rm_Row_addWord : Room := { frames := 1, cells := 0, slots := 0, locals := 21 }
section
variable {p : Program} {l : Launch} {e : Env} {s : State} {m : MethodId} {args : Array Value} {below : List Frame} {meth : Method} {c : Code} {dC : Nat → ClassId} {dI : Nat → Nat → Nat} {A : Nat → Prop} {cB cI cJ : ClassId} {H : Heap} {locs : List Loc} {ls : Array Slot} {N : Nat} {r ra rL : Nat}
noncomputable def j_Row_addWord_0 (rL : Nat) (x1 : Int32) (rn : Int32) (rf : Nat → Int32)  : Option (Int32 × Int32 × (Nat → Int32)) :=
  bd3 (f_Row_add rL x1 rn rf) (fun r2 rn_2 rf_2 => (if r2 = 0 then (some ((0 : Int32), rn_2, rf_2) : Option (Int32 × Int32 × (Nat → Int32))) else bd3 (f_Row_add rL (x1 >>> ((8 : Int32) &&& 31)) rn_2 rf_2) (fun r13 rn_13 rf_13 => (if r13 = 0 then (some ((0 : Int32), rn_13, rf_13) : Option (Int32 × Int32 × (Nat → Int32))) else bd3 (f_Row_add rL (x1 >>> ((16 : Int32) &&& 31)) rn_13 rf_13) (fun r24 rn_24 rf_24 => (if r24 = 0 then (some ((0 : Int32), rn_24, rf_24) : Option (Int32 × Int32 × (Nat → Int32))) else bd3 (f_Row_add rL (x1 >>> ((24 : Int32) &&& 31)) rn_24 rf_24) (fun r35 rn_35 rf_35 => (if r35 = 0 then (some ((0 : Int32), rn_35, rf_35) : Option (Int32 × Int32 × (Nat → Int32))) else (some ((1 : Int32), rn_35, rf_35) : Option (Int32 × Int32 × (Nat → Int32)))))))))))
set_option maxHeartbeats 4000000 in
set_option maxRecDepth 100000 in
theorem k_Row_addWord_0 {r_z : Int32} {rn_z : Int32} {rf_z : Nat → Int32} (C : Fx p s m args meth c cd_Row_addWord 2 R_Row lw_g (some .boolean)) (hK : va_K (dC, dI) vwCl [(cB, .byte), (cI, .int), (cJ, .long)] s) (hA : ∀ q, s.heap.size ≤ q → A q) (x1 : Int32) (rn : Int32) (rf : Nat → Int32)  (hf : j_Row_addWord_0 rL x1 rn rf  = some (r_z, rn_z, rf_z)) (hP : va_P (dC, dI) vwCl (wd_Row_addWord r ra cB cI cJ rL rn rf) H) (hD : va_D A (wd_Row_addWord r ra cB cI cJ rL rn rf)) (hS : va_S A s.heap H locs) (hl : lv_has ls 2 [(0, .ref r), (1, .int x1)]) : W p l e rm_Row_addWord s m args below meth c H locs 0 0 (MQ below (sQi (dC, dI) vwCl [(cB, .byte), (cI, .int), (cJ, .long)] A r_z (wd_Row_addWord r ra cB cI cJ rL rn_z rf_z)) args s 0 0 A) (F0 m 0 ls []) := by
  obtain ⟨hx, hb, hml, hown, hts, hr, hlocks, hZ⟩ := id C
  unfold j_Row_addWord_0 at hf
  refine lv_aload_n hx hb d_Row_addWord_0 rfl (lv_at hl 0 rfl) ?_
  refine lv_iload_n hx hb d_Row_addWord_1 rfl (lv_at hl 1 rfl) ?_
  obtain ⟨r2, rn_2, rf_2, hc2, hf⟩ := bd3_some hf
  refine s_Vi (As := [.int x1]) (rest := []) (wr := []) (ws' := wd_Row_addWord r ra cB cI cJ rL rn_2 rf_2) C.call (c_Row_add l dC dI cB cI cJ r ra rL rn rf x1 hc2) (cwV 1 hts (gd_V w_157 w_41 w_42 w_12 w_43) rfl rfl rfl ⟨rfl, hd_Row_add⟩ ⟨Nat.le_of_ble_eq_true rfl, Nat.le_of_ble_eq_true rfl⟩) rfl hl.1 rfl (Nat.le_of_ble_eq_true rfl) d_Row_addWord_2 ⟨Nat.le_of_ble_eq_true rfl, Nat.le_of_ble_eq_true rfl⟩ hZ hK hP hD hS hA 1 0 rfl rfl [0, 1] [] [0, 1] rfl rfl rfl rfl (by decide) rfl rfl (fun H locs hP hD hS => ?_)
  refine lv_if_eq (tgt := 45) hx hb d_Row_addWord_5 (by decide) (fun c_5 => ?_) (fun c_5 => ?_)
  · have hf := br_pos c_5 hf
    refine lv_iconst (v := 0) hx hb d_Row_addWord_45 (by decide) ?_
    cases hf
    exact s_zret hx hb hr (by decide) hlocks hP hK hD hS d_Row_addWord_46
  · have hf := br_neg c_5 hf
    refine lv_aload_n hx hb d_Row_addWord_8 rfl (lv_at hl 0 rfl) ?_
    refine lv_iload_n hx hb d_Row_addWord_9 rfl (lv_at hl 1 rfl) ?_
    refine lv_bipush (v := 8) hx hb d_Row_addWord_10 (by decide) ?_
    refine lv_ishr hx hb d_Row_addWord_12 ?_
    obtain ⟨r13, rn_13, rf_13, hc13, hf⟩ := bd3_some hf
    refine s_Vi (As := [.int (x1 >>> ((8 : Int32) &&& 31))]) (rest := []) (wr := []) (ws' := wd_Row_addWord r ra cB cI cJ rL rn_13 rf_13) C.call (c_Row_add l dC dI cB cI cJ r ra rL rn_2 rf_2 (x1 >>> ((8 : Int32) &&& 31)) hc13) (cwV 1 hts (gd_V w_157 w_41 w_42 w_12 w_43) rfl rfl rfl ⟨rfl, hd_Row_add⟩ ⟨Nat.le_of_ble_eq_true rfl, Nat.le_of_ble_eq_true rfl⟩) rfl hl.1 rfl (Nat.le_of_ble_eq_true rfl) d_Row_addWord_13 ⟨Nat.le_of_ble_eq_true rfl, Nat.le_of_ble_eq_true rfl⟩ hZ hK hP hD hS hA 1 0 rfl rfl [0, 1] [] [0, 1] rfl rfl rfl rfl (by decide) rfl rfl (fun H locs hP hD hS => ?_)
    refine lv_if_eq (tgt := 45) hx hb d_Row_addWord_16 (by decide) (fun c_16 => ?_) (fun c_16 => ?_)
    · have hf := br_pos c_16 hf
      refine lv_iconst (v := 0) hx hb d_Row_addWord_45 (by decide) ?_
      cases hf
      exact s_zret hx hb hr (by decide) hlocks hP hK hD hS d_Row_addWord_46
    · have hf := br_neg c_16 hf
      refine lv_aload_n hx hb d_Row_addWord_19 rfl (lv_at hl 0 rfl) ?_
      refine lv_iload_n hx hb d_Row_addWord_20 rfl (lv_at hl 1 rfl) ?_
      refine lv_bipush (v := 16) hx hb d_Row_addWord_21 (by decide) ?_
      refine lv_ishr hx hb d_Row_addWord_23 ?_
      obtain ⟨r24, rn_24, rf_24, hc24, hf⟩ := bd3_some hf
      refine s_Vi (As := [.int (x1 >>> ((16 : Int32) &&& 31))]) (rest := []) (wr := []) (ws' := wd_Row_addWord r ra cB cI cJ rL rn_24 rf_24) C.call (c_Row_add l dC dI cB cI cJ r ra rL rn_13 rf_13 (x1 >>> ((16 : Int32) &&& 31)) hc24) (cwV 1 hts (gd_V w_157 w_41 w_42 w_12 w_43) rfl rfl rfl ⟨rfl, hd_Row_add⟩ ⟨Nat.le_of_ble_eq_true rfl, Nat.le_of_ble_eq_true rfl⟩) rfl hl.1 rfl (Nat.le_of_ble_eq_true rfl) d_Row_addWord_24 ⟨Nat.le_of_ble_eq_true rfl, Nat.le_of_ble_eq_true rfl⟩ hZ hK hP hD hS hA 1 0 rfl rfl [0, 1] [] [0, 1] rfl rfl rfl rfl (by decide) rfl rfl (fun H locs hP hD hS => ?_)
      refine lv_if_eq (tgt := 45) hx hb d_Row_addWord_27 (by decide) (fun c_27 => ?_) (fun c_27 => ?_)
      · have hf := br_pos c_27 hf
        refine lv_iconst (v := 0) hx hb d_Row_addWord_45 (by decide) ?_
        cases hf
        exact s_zret hx hb hr (by decide) hlocks hP hK hD hS d_Row_addWord_46
      · have hf := br_neg c_27 hf
        refine lv_aload_n hx hb d_Row_addWord_30 rfl (lv_at hl 0 rfl) ?_
        refine lv_iload_n hx hb d_Row_addWord_31 rfl (lv_at hl 1 rfl) ?_
        refine lv_bipush (v := 24) hx hb d_Row_addWord_32 (by decide) ?_
        refine lv_ishr hx hb d_Row_addWord_34 ?_
        obtain ⟨r35, rn_35, rf_35, hc35, hf⟩ := bd3_some hf
        refine s_Vi (As := [.int (x1 >>> ((24 : Int32) &&& 31))]) (rest := []) (wr := []) (ws' := wd_Row_addWord r ra cB cI cJ rL rn_35 rf_35) C.call (c_Row_add l dC dI cB cI cJ r ra rL rn_24 rf_24 (x1 >>> ((24 : Int32) &&& 31)) hc35) (cwV 1 hts (gd_V w_157 w_41 w_42 w_12 w_43) rfl rfl rfl ⟨rfl, hd_Row_add⟩ ⟨Nat.le_of_ble_eq_true rfl, Nat.le_of_ble_eq_true rfl⟩) rfl hl.1 rfl (Nat.le_of_ble_eq_true rfl) d_Row_addWord_35 ⟨Nat.le_of_ble_eq_true rfl, Nat.le_of_ble_eq_true rfl⟩ hZ hK hP hD hS hA 1 0 rfl rfl [0, 1] [] [0, 1] rfl rfl rfl rfl (by decide) rfl rfl (fun H locs hP hD hS => ?_)
        refine lv_if_eq (tgt := 45) hx hb d_Row_addWord_38 (by decide) (fun c_38 => ?_) (fun c_38 => ?_)
        · have hf := br_pos c_38 hf
          refine lv_iconst (v := 0) hx hb d_Row_addWord_45 (by decide) ?_
          cases hf
          exact s_zret hx hb hr (by decide) hlocks hP hK hD hS d_Row_addWord_46
        · have hf := br_neg c_38 hf
          refine lv_iconst (v := 1) hx hb d_Row_addWord_41 (by decide) ?_
          refine lv_goto (tgt := 46) hx hb d_Row_addWord_42 (by decide) ?_
          cases hf
          exact s_zret hx hb hr (by decide) hlocks hP hK hD hS d_Row_addWord_46
end
noncomputable abbrev f_Row_addWord (rL : Nat) (x1 : Int32) (rn : Int32) (rf : Nat → Int32) : Option (Int32 × Int32 × (Nat → Int32)) := j_Row_addWord_0 rL x1 rn rf
set_option maxRecDepth 100000 in
theorem c_Row_addWord (l : Launch) (dC : Nat → ClassId) (dI : Nat → Nat → Nat) (cB cI cJ : ClassId) (r ra rL : Nat) (rn : Int32) (rf : Nat → Int32) (x1 : Int32) {r_z : Int32} {rn_z : Int32} {rf_z : Nat → Int32} (hf : f_Row_addWord rL x1 rn rf = some (r_z, rn_z, rf_z)) : MetI l y_Row_addWord ws_Row_addWord rm_Row_addWord (dC, dI) vwCl [(cB, .byte), (cI, .int), (cJ, .long)] [.ref r, .int x1] (wd_Row_addWord r ra cB cI cJ rL rn rf) r_z (wd_Row_addWord r ra cB cI cJ rL rn_z rf_z) 0 0 :=
  s_ofi (bytes := cd_Row_addWord) (maxL := 2) (ret := (some .boolean)) (by decide) rfl (Nat.le_of_ble_eq_true rfl) (fun p e s m below meth c A ls C hK hA hP hD hS hl => k_Row_addWord_0 C hK hA x1 rn rf hf hP hD hS (lv_sub hl [0, 1] rfl))
