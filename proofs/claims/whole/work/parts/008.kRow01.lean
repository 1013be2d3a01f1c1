abbrev wd_Row_count (r ra : Nat) (cB cI cJ : ClassId) (rn : Int32) : va_W := [(r, .inr (1, [.ref ra, .int rn]))]
abbrev rm_Row_count : Room := { frames := 0, cells := 0, slots := 0, locals := 0 }
section
variable {p : Program} {l : Launch} {e : Env} {s : State} {m : MethodId} {args : Array Value} {below : List Frame} {meth : Method} {c : Code} {dC : Nat → ClassId} {dI : Nat → Nat → Nat} {A : Nat → Prop} {cB cI cJ : ClassId} {H : Heap} {locs : List Loc} {ls : Array Slot} {N : Nat} {r ra : Nat}
noncomputable def j_Row_count_0 (rn : Int32)  : Option (Int32) :=
  (some rn : Option (Int32))
set_option maxHeartbeats 4000000 in
set_option maxRecDepth 100000 in
theorem k_Row_count_0 {r_z : Int32} (C : Fx p s m args meth c cd_Row_count 1 R_Row lw_g (some .int)) (hK : va_K (dC, dI) vwCl [(cB, .byte), (cI, .int), (cJ, .long)] s) (hA : ∀ q, s.heap.size ≤ q → A q) (rn : Int32)  (hf : j_Row_count_0 rn  = some r_z) (hP : va_P (dC, dI) vwCl (wd_Row_count r ra cB cI cJ rn) H) (hD : va_D A (wd_Row_count r ra cB cI cJ rn)) (hS : va_S A s.heap H locs) (hl : lv_has ls 1 [(0, .ref r)]) : W p l e rm_Row_count s m args below meth c H locs 0 0 (MQ below (sQi (dC, dI) vwCl [(cB, .byte), (cI, .int), (cJ, .long)] A r_z (wd_Row_count r ra cB cI cJ rn)) args s 0 0 A) (F0 m 0 ls []) := by
  obtain ⟨hx, hb, hml, hown, hts, hr, hlocks, hZ⟩ := id C
  unfold j_Row_count_0 at hf
  refine lv_aload_n hx hb d_Row_count_0 rfl (lv_at hl 0 rfl) ?_
  refine va_get (D := (dC, dI)) (ci := 1) (v := .int rn) (C := R_Row) (T := T_Row) (N := 2) hx hb hts w_0 hown hK hP 0 rfl rfl 1 (by decide) (hts _ w_1) (fun _ h9 => h9) rfl d_Row_count_1 ?_
  cases hf
  exact s_iret hx hb hr hlocks hP hK hD hS d_Row_count_4
end
noncomputable abbrev f_Row_count (rn : Int32) : Option (Int32) := j_Row_count_0 rn
set_option maxRecDepth 100000 in
theorem c_Row_count (l : Launch) (dC : Nat → ClassId) (dI : Nat → Nat → Nat) (cB cI cJ : ClassId) (r ra : Nat) (rn : Int32)  {r_z : Int32} (hf : f_Row_count rn = some r_z) : MetI l y_Row_count ws_Row_count rm_Row_count (dC, dI) vwCl [(cB, .byte), (cI, .int), (cJ, .long)] [.ref r] (wd_Row_count r ra cB cI cJ rn) r_z (wd_Row_count r ra cB cI cJ rn) 0 0 :=
  s_ofi (bytes := cd_Row_count) (maxL := 1) (ret := (some .int)) (by decide) rfl (Nat.le_of_ble_eq_true rfl) (fun p e s m below meth c A ls C hK hA hP hD hS hl => k_Row_count_0 C hK hA rn hf hP hD hS (lv_sub hl [0] rfl))
