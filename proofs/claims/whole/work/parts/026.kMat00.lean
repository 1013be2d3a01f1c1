abbrev wd_Mat_slot (cB cI cJ : ClassId) : va_W := []
abbrev rm_Mat_slot : Room := { frames := 0, cells := 0, slots := 0, locals := 0 }
section
variable {p : Program} {l : Launch} {e : Env} {s : State} {m : MethodId} {args : Array Value} {below : List Frame} {meth : Method} {c : Code} {dC : Nat → ClassId} {dI : Nat → Nat → Nat} {A : Nat → Prop} {cB cI cJ : ClassId} {H : Heap} {locs : List Loc} {ls : Array Slot} {N : Nat} 
noncomputable def j_Mat_slot_0 (x0 : Int32)  : Option (Int32) :=
  (some (us32 (x0 * (-1640531535 : Int32)) (20 : Int32)) : Option (Int32))
set_option maxHeartbeats 4000000 in
set_option maxRecDepth 100000 in
theorem k_Mat_slot_0 {r_z : Int32} (C : Fx p s m args meth c cd_Mat_slot 1 R_Mat lw_g (some .int)) (hK : va_K (dC, dI) vwCl [(cB, .byte), (cI, .int), (cJ, .long)] s) (hA : ∀ q, s.heap.size ≤ q → A q) (x0 : Int32)  (hf : j_Mat_slot_0 x0  = some r_z) (hP : va_P (dC, dI) vwCl (wd_Mat_slot cB cI cJ) H) (hD : va_D A (wd_Mat_slot cB cI cJ)) (hS : va_S A s.heap H locs) (hl : lv_has ls 1 [(0, .int x0)]) : W p l e rm_Mat_slot s m args below meth c H locs 0 0 (MQ below (sQi (dC, dI) vwCl [(cB, .byte), (cI, .int), (cJ, .long)] A r_z (wd_Mat_slot cB cI cJ)) args s 0 0 A) (F0 m 0 ls []) := by
  obtain ⟨hx, hb, hml, hown, hts, hr, hlocks, hZ⟩ := id C
  unfold j_Mat_slot_0 at hf
  refine lv_iload_n hx hb d_Mat_slot_0 rfl (lv_at hl 0 rfl) ?_
  refine lv_ldc (v := -1640531535) hx hb hown (hts _ w_52) d_Mat_slot_1 ?_
  refine lv_imul hx hb d_Mat_slot_3 ?_
  refine lv_bipush (v := 20) hx hb d_Mat_slot_4 (by decide) ?_
  refine lv_iushr (v := (us32 (x0 * (-1640531535 : Int32)) (20 : Int32))) hx hb d_Mat_slot_6 rfl ?_
  cases hf
  exact s_iret hx hb hr hlocks hP hK hD hS d_Mat_slot_7
end
noncomputable abbrev f_Mat_slot (x0 : Int32) : Option (Int32) := j_Mat_slot_0 x0
set_option maxRecDepth 100000 in
theorem c_Mat_slot (l : Launch) (dC : Nat → ClassId) (dI : Nat → Nat → Nat) (cB cI cJ : ClassId)   (x0 : Int32) {r_z : Int32} (hf : f_Mat_slot x0 = some r_z) : MetI l y_Mat_slot ws_Mat_slot rm_Mat_slot (dC, dI) vwCl [(cB, .byte), (cI, .int), (cJ, .long)] [.int x0] (wd_Mat_slot cB cI cJ) r_z (wd_Mat_slot cB cI cJ) 0 0 :=
  s_ofi (bytes := cd_Mat_slot) (maxL := 1) (ret := (some .int)) (by decide) rfl (Nat.le_of_ble_eq_true rfl) (fun p e s m below meth c A ls C hK hA hP hD hS hl => k_Mat_slot_0 C hK hA x0 hf hP hD hS (lv_sub hl [0] rfl))
