abbrev wd_Row_hasRoomFor (r ra : Nat) (cB cI cJ : ClassId) (rL : Nat) (rn : Int32) (rf : Nat → Int32) : va_W := [(r, .inr (1, [.ref ra, .int rn])), (ra, .inl (cB, rL, .inl rf))]
abbrev rm_Row_hasRoomFor : Room := { frames := 0, cells := 0, slots := 0, locals := 0 }
section
variable {p : Program} {l : Launch} {e : Env} {s : State} {m : MethodId} {args : Array Value} {below : List Frame} {meth : Method} {c : Code} {dC : Nat → ClassId} {dI : Nat → Nat → Nat} {A : Nat → Prop} {cB cI cJ : ClassId} {H : Heap} {locs : List Loc} {ls : Array Slot} {N : Nat} {r ra rL : Nat}
noncomputable def j_Row_hasRoomFor_0 (rL : Nat) (x1 : Int64) (rn : Int32)  : Option (Int32) :=
  (if 0 < (lg_cmp x1 (((Int32.ofNat rL) - rn).toInt64)) then (some (0 : Int32) : Option (Int32)) else (some (1 : Int32) : Option (Int32)))
set_option maxHeartbeats 4000000 in
set_option maxRecDepth 100000 in
theorem k_Row_hasRoomFor_0 {r_z : Int32} (C : Fx p s m args meth c cd_Row_hasRoomFor 3 R_Row lw_g (some .boolean)) (hK : va_K (dC, dI) vwCl [(cB, .byte), (cI, .int), (cJ, .long)] s) (hA : ∀ q, s.heap.size ≤ q → A q) (x1 : Int64) (rn : Int32) (rf : Nat → Int32)  (hf : j_Row_hasRoomFor_0 rL x1 rn  = some r_z) (hP : va_P (dC, dI) vwCl (wd_Row_hasRoomFor r ra cB cI cJ rL rn rf) H) (hD : va_D A (wd_Row_hasRoomFor r ra cB cI cJ rL rn rf)) (hS : va_S A s.heap H locs) (hl : lv_has ls 3 [(0, .ref r), (1, .long x1)]) : W p l e rm_Row_hasRoomFor s m args below meth c H locs 0 0 (MQ below (sQi (dC, dI) vwCl [(cB, .byte), (cI, .int), (cJ, .long)] A r_z (wd_Row_hasRoomFor r ra cB cI cJ rL rn rf)) args s 0 0 A) (F0 m 0 ls []) := by
  obtain ⟨hx, hb, hml, hown, hts, hr, hlocks, hZ⟩ := id C
  unfold j_Row_hasRoomFor_0 at hf
  refine lv_lload_n hx hb d_Row_hasRoomFor_0 rfl (lv_at hl 1 rfl) ?_
  refine lv_aload_n hx hb d_Row_hasRoomFor_1 rfl (lv_at hl 0 rfl) ?_
  refine va_get (D := (dC, dI)) (ci := 1) (v := .ref ra) (C := R_Row) (T := T_Row) (N := 2) hx hb hts w_0 hown hK hP 0 rfl rfl 0 (by decide) (hts _ w_2) (fun _ h9 => h9) rfl d_Row_hasRoomFor_2 ?_
  refine va_alen (v := (Int32.ofNat rL)) hx hb hK hP 1 0 rfl rfl rfl d_Row_hasRoomFor_5 ?_
  refine lv_aload_n hx hb d_Row_hasRoomFor_6 rfl (lv_at hl 0 rfl) ?_
  refine va_get (D := (dC, dI)) (ci := 1) (v := .int rn) (C := R_Row) (T := T_Row) (N := 2) hx hb hts w_0 hown hK hP 0 rfl rfl 1 (by decide) (hts _ w_1) (fun _ h9 => h9) rfl d_Row_hasRoomFor_7 ?_
  refine lv_isub hx hb d_Row_hasRoomFor_10 ?_
  refine lv_i2l (v := (((Int32.ofNat rL) - rn).toInt64)) hx hb d_Row_hasRoomFor_11 rfl ?_
  refine W.lcmp hx hb d_Row_hasRoomFor_12 ?_
  refine lv_if_gt (tgt := 20) hx hb d_Row_hasRoomFor_13 (by decide) (fun c_13 => ?_) (fun c_13 => ?_)
  · have hf := br_pos c_13 hf
    refine lv_iconst (v := 0) hx hb d_Row_hasRoomFor_20 (by decide) ?_
    cases hf
    exact s_zret hx hb hr (by decide) hlocks hP hK hD hS d_Row_hasRoomFor_21
  · have hf := br_neg c_13 hf
    refine lv_iconst (v := 1) hx hb d_Row_hasRoomFor_16 (by decide) ?_
    refine lv_goto (tgt := 21) hx hb d_Row_hasRoomFor_17 (by decide) ?_
    cases hf
    exact s_zret hx hb hr (by decide) hlocks hP hK hD hS d_Row_hasRoomFor_21
end
noncomputable abbrev f_Row_hasRoomFor (rL : Nat) (x1 : Int64) (rn : Int32) : Option (Int32) := j_Row_hasRoomFor_0 rL x1 rn
set_option maxRecDepth 100000 in
theorem c_Row_hasRoomFor (l : Launch) (dC : Nat → ClassId) (dI : Nat → Nat → Nat) (cB cI cJ : ClassId) (r ra rL : Nat) (rn : Int32) (rf : Nat → Int32) (x1 : Int64) {r_z : Int32} (hf : f_Row_hasRoomFor rL x1 rn = some r_z) : MetI l y_Row_hasRoomFor ws_Row_hasRoomFor rm_Row_hasRoomFor (dC, dI) vwCl [(cB, .byte), (cI, .int), (cJ, .long)] [.ref r, .long x1] (wd_Row_hasRoomFor r ra cB cI cJ rL rn rf) r_z (wd_Row_hasRoomFor r ra cB cI cJ rL rn rf) 0 0 :=
  s_ofi (bytes := cd_Row_hasRoomFor) (maxL := 3) (ret := (some .boolean)) (by decide) rfl (Nat.le_of_ble_eq_true rfl) (fun p e s m below meth c A ls C hK hA hP hD hS hl => k_Row_hasRoomFor_0 C hK hA x1 rn rf hf hP hD hS (lv_sub hl [0, 1] rfl))
