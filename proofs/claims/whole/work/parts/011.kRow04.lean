abbrev wd_Row_become (r ra o oa : Nat) (cB cI cJ : ClassId) (rL oL : Nat) (rn : Int32) (rf : Nat → Int32) (on : Int32) (of : Nat → Int32) : va_W := [(r, .inr (1, [.ref ra, .int rn])), (ra, .inl (cB, rL, .inl rf)), (o, .inr (1, [.ref oa, .int on])), (oa, .inl (cB, oL, .inl of))]
abbrev rm_Row_become : Room := { frames := 2, cells := 0, slots := 0, locals := 42 }
section
variable {p : Program} {l : Launch} {e : Env} {s : State} {m : MethodId} {args : Array Value} {below : List Frame} {meth : Method} {c : Code} {dC : Nat → ClassId} {dI : Nat → Nat → Nat} {A : Nat → Prop} {cB cI cJ : ClassId} {H : Heap} {locs : List Loc} {ls : Array Slot} {N : Nat} {r ra o oa rL oL : Nat}
noncomputable def j_Row_become_0 (rL : Nat) (oL : Nat) (rn : Int32) (rf : Nat → Int32) (on : Int32) (of : Nat → Int32)  : Option (Int32 × (Nat → Int32)) :=
  bd1 (f_Row_cutTo (0 : Int32) rn) (fun rn_2 => bd3 (f_Row_addFrom rL oL (0 : Int32) on rn_2 rf on of) (fun r12 rn_12 rf_12 => (some (rn_12, rf_12) : Option (Int32 × (Nat → Int32)))))
set_option maxHeartbeats 4000000 in
set_option maxRecDepth 100000 in
theorem k_Row_become_0 {rn_z : Int32} {rf_z : Nat → Int32} (C : Fx p s m args meth c cd_Row_become 2 R_Row lw_g none) (hK : va_K (dC, dI) vwCl [(cB, .byte), (cI, .int), (cJ, .long)] s) (hA : ∀ q, s.heap.size ≤ q → A q) (rn : Int32) (rf : Nat → Int32) (on : Int32) (of : Nat → Int32)  (hf : j_Row_become_0 rL oL rn rf on of  = some (rn_z, rf_z)) (hP : va_P (dC, dI) vwCl (wd_Row_become r ra o oa cB cI cJ rL oL rn rf on of) H) (hD : va_D A (wd_Row_become r ra o oa cB cI cJ rL oL rn rf on of)) (hS : va_S A s.heap H locs) (hl : lv_has ls 2 [(0, .ref r), (1, .ref o)]) : W p l e rm_Row_become s m args below meth c H locs 0 0 (MQ below (sQv (dC, dI) vwCl [(cB, .byte), (cI, .int), (cJ, .long)] A (wd_Row_become r ra o oa cB cI cJ rL oL rn_z rf_z on of)) args s 0 0 A) (F0 m 0 ls []) := by
  obtain ⟨hx, hb, hml, hown, hts, hr, hlocks, hZ⟩ := id C
  unfold j_Row_become_0 at hf
  refine lv_aload_n hx hb d_Row_become_0 rfl (lv_at hl 0 rfl) ?_
  refine lv_iconst (v := 0) hx hb d_Row_become_1 (by decide) ?_
  obtain ⟨rn_2, hc2, hf⟩ := bd1_some hf
  refine s_Vv (As := [.int (0 : Int32)]) (rest := []) (wr := [(ra, .inl (cB, rL, .inl rf)), (o, .inr (1, [.ref oa, .int on])), (oa, .inl (cB, oL, .inl of))]) (ws' := wd_Row_become r ra o oa cB cI cJ rL oL rn_2 rf on of) C.call (c_Row_cutTo l dC dI cB cI cJ r ra  rn (0 : Int32) hc2) (cwV 1 hts (gd_V w_29 w_30 w_31 w_12 w_32) rfl rfl rfl ⟨rfl, hd_Row_cutTo⟩ ⟨Nat.le_of_ble_eq_true rfl, Nat.le_of_ble_eq_true rfl⟩) rfl hl.1 rfl (Nat.le_of_ble_eq_true rfl) d_Row_become_2 ⟨Nat.le_of_ble_eq_true rfl, Nat.le_of_ble_eq_true rfl⟩ hZ hK hP hD hS hA 1 0 rfl rfl [0] [1, 2, 3] [3, 0, 1, 2] rfl rfl rfl rfl (by decide) rfl rfl (fun H locs hP hD hS => ?_)
  refine lv_aload_n hx hb d_Row_become_5 rfl (lv_at hl 0 rfl) ?_
  refine lv_aload_n hx hb d_Row_become_6 rfl (lv_at hl 1 rfl) ?_
  refine lv_iconst (v := 0) hx hb d_Row_become_7 (by decide) ?_
  refine lv_aload_n hx hb d_Row_become_8 rfl (lv_at hl 1 rfl) ?_
  refine va_get (D := (dC, dI)) (ci := 1) (v := .int on) (C := R_Row) (T := T_Row) (N := 2) hx hb hts w_0 hown hK hP 2 rfl rfl 1 (by decide) (hts _ w_1) (fun _ h9 => h9) rfl d_Row_become_9 ?_
  obtain ⟨r12, rn_12, rf_12, hc12, hf⟩ := bd3_some hf
  refine s_Vi (As := [.ref o, .int (0 : Int32), .int on]) (rest := []) (wr := []) (ws' := wd_Row_become r ra o oa cB cI cJ rL oL rn_12 rf_12 on of) C.call (c_Row_addFrom l dC dI cB cI cJ r ra o oa rL oL rn_2 rf on of (0 : Int32) on hc12) (cwV 3 hts (gd_V w_33 w_19 w_20 w_12 w_21) rfl rfl rfl ⟨rfl, hd_Row_addFrom⟩ ⟨Nat.le_of_ble_eq_true rfl, Nat.le_of_ble_eq_true rfl⟩) rfl hl.1 rfl (Nat.le_of_ble_eq_true rfl) d_Row_become_12 ⟨Nat.le_of_ble_eq_true rfl, Nat.le_of_ble_eq_true rfl⟩ hZ hK hP hD hS hA 1 0 rfl rfl [0, 1, 2, 3] [] [0, 1, 2, 3] rfl rfl rfl rfl (by decide) rfl rfl (fun H locs hP hD hS => ?_)
  refine lv_pop hx hb d_Row_become_15 rfl ?_
  cases hf
  exact s_vret hx hb hr hlocks hP hK hD hS d_Row_become_16
end
noncomputable abbrev f_Row_become (rL : Nat) (oL : Nat) (rn : Int32) (rf : Nat → Int32) (on : Int32) (of : Nat → Int32) : Option (Int32 × (Nat → Int32)) := j_Row_become_0 rL oL rn rf on of
set_option maxRecDepth 100000 in
theorem c_Row_become (l : Launch) (dC : Nat → ClassId) (dI : Nat → Nat → Nat) (cB cI cJ : ClassId) (r ra o oa rL oL : Nat) (rn : Int32) (rf : Nat → Int32) (on : Int32) (of : Nat → Int32)  {rn_z : Int32} {rf_z : Nat → Int32} (hf : f_Row_become rL oL rn rf on of = some (rn_z, rf_z)) : MetV l y_Row_become ws_Row_become rm_Row_become (dC, dI) vwCl [(cB, .byte), (cI, .int), (cJ, .long)] [.ref r, .ref o] (wd_Row_become r ra o oa cB cI cJ rL oL rn rf on of)  (wd_Row_become r ra o oa cB cI cJ rL oL rn_z rf_z on of) 0 0 :=
  s_ofv (bytes := cd_Row_become) (maxL := 2) (ret := none) (by decide) rfl (Nat.le_of_ble_eq_true rfl) (fun p e s m below meth c A ls C hK hA hP hD hS hl => k_Row_become_0 C hK hA rn rf on of hf hP hD hS (lv_sub hl [0, 1] rfl))
