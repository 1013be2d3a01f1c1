abbrev wd_Row_cutTo (r ra : Nat) (cB cI cJ : ClassId) (rn : Int32) : va_W := [(r, .inr (1, [.ref ra, .int rn]))]
abbrev rm_Row_cutTo : Room := { frames := 1, cells := 0, slots := 0, locals := 15 }
section
variable {p : Program} {l : Launch} {e : Env} {s : State} {m : MethodId} {args : Array Value} {below : List Frame} {meth : Method} {c : Code} {dC : Nat → ClassId} {dI : Nat → Nat → Nat} {A : Nat → Prop} {cB cI cJ : ClassId} {H : Heap} {locs : List Loc} {ls : Array Slot} {N : Nat} {r ra : Nat}
noncomputable def j_Row_cutTo_0 (x1 : Int32) (rn : Int32)  : Option (Int32) :=
  (some (mx (0 : Int32) (mn rn x1)) : Option (Int32))
set_option maxHeartbeats 4000000 in
set_option maxRecDepth 100000 in
theorem k_Row_cutTo_0 {rn_z : Int32} (C : Fx p s m args meth c cd_Row_cutTo 2 R_Row lw_g none) (hK : va_K (dC, dI) vwCl [(cB, .byte), (cI, .int), (cJ, .long)] s) (hA : ∀ q, s.heap.size ≤ q → A q) (x1 : Int32) (rn : Int32)  (hf : j_Row_cutTo_0 x1 rn  = some rn_z) (hP : va_P (dC, dI) vwCl (wd_Row_cutTo r ra cB cI cJ rn) H) (hD : va_D A (wd_Row_cutTo r ra cB cI cJ rn)) (hS : va_S A s.heap H locs) (hl : lv_has ls 2 [(0, .ref r), (1, .int x1)]) : W p l e rm_Row_cutTo s m args below meth c H locs 0 0 (MQ below (sQv (dC, dI) vwCl [(cB, .byte), (cI, .int), (cJ, .long)] A (wd_Row_cutTo r ra cB cI cJ rn_z)) args s 0 0 A) (F0 m 0 ls []) := by
  obtain ⟨hx, hb, hml, hown, hts, hr, hlocks, hZ⟩ := id C
  unfold j_Row_cutTo_0 at hf
  refine lv_aload_n hx hb d_Row_cutTo_0 rfl (lv_at hl 0 rfl) ?_
  refine lv_iconst (v := 0) hx hb d_Row_cutTo_1 (by decide) ?_
  refine lv_aload_n hx hb d_Row_cutTo_2 rfl (lv_at hl 0 rfl) ?_
  refine va_get (D := (dC, dI)) (ci := 1) (v := .int rn) (C := R_Row) (T := T_Row) (N := 2) hx hb hts w_0 hown hK hP 0 rfl rfl 1 (by decide) (hts _ w_1) (fun _ h9 => h9) rfl d_Row_cutTo_3 ?_
  refine lv_iload_n hx hb d_Row_cutTo_6 rfl (lv_at hl 1 rfl) ?_
  refine s_mmin hx hb (hml.trans hl.1.symm) hown (hts _ w_22) (hts _ w_23) (hts _ w_24) (hts _ w_25) (Nat.le_of_ble_eq_true rfl) (Nat.le_of_ble_eq_true rfl) (Nat.zero_le _) (Nat.zero_le _) d_Row_cutTo_7 ?_
  refine s_mmax hx hb (hml.trans hl.1.symm) hown (hts _ w_26) (hts _ w_27) (hts _ w_24) (hts _ w_28) (Nat.le_of_ble_eq_true rfl) (Nat.le_of_ble_eq_true rfl) (Nat.zero_le _) (Nat.zero_le _) d_Row_cutTo_10 ?_
  refine va_put (D := (dC, dI)) (ci := 1) (v := .int (mx (0 : Int32) (mn rn x1))) (ty := .int) (C := R_Row) (T := T_Row) (N := 2) hx hb hts w_0 ty_Row ty_Row_ok nm_Row hown hK hP hD hS 0 rfl rfl 1 (by decide) (hts _ w_1) (fun _ h9 => h9) rfl (by decide +kernel) rfl rfl (Nat.le_of_ble_eq_true rfl) d_Row_cutTo_13 (fun H locs hP hD hS => ?_)
  have hP : va_P (dC, dI) vwCl (wd_Row_cutTo r ra cB cI cJ (mx (0 : Int32) (mn rn x1))) H := hP
  have hD : va_D A (wd_Row_cutTo r ra cB cI cJ (mx (0 : Int32) (mn rn x1))) := hD
  cases hf
  exact s_vret hx hb hr hlocks hP hK hD hS d_Row_cutTo_16
end
noncomputable abbrev f_Row_cutTo (x1 : Int32) (rn : Int32) : Option (Int32) := j_Row_cutTo_0 x1 rn
set_option maxRecDepth 100000 in
theorem c_Row_cutTo (l : Launch) (dC : Nat → ClassId) (dI : Nat → Nat → Nat) (cB cI cJ : ClassId) (r ra : Nat) (rn : Int32) (x1 : Int32) {rn_z : Int32} (hf : f_Row_cutTo x1 rn = some rn_z) : MetV l y_Row_cutTo ws_Row_cutTo rm_Row_cutTo (dC, dI) vwCl [(cB, .byte), (cI, .int), (cJ, .long)] [.ref r, .int x1] (wd_Row_cutTo r ra cB cI cJ rn)  (wd_Row_cutTo r ra cB cI cJ rn_z) 0 0 :=
  s_ofv (bytes := cd_Row_cutTo) (maxL := 2) (ret := none) (by decide) rfl (Nat.le_of_ble_eq_true rfl) (fun p e s m below meth c A ls C hK hA hP hD hS hl => k_Row_cutTo_0 C hK hA x1 rn hf hP hD hS (lv_sub hl [0, 1] rfl))
