abbrev wd_Sum_rotated (cB cI cJ : ClassId) : va_W := []
abbrev rm_Sum_rotated : Room := { frames := 0, cells := 0, slots := 0, locals := 0 }
section
variable {p : Program} {l : Launch} {e : Env} {s : State} {m : MethodId} {args : Array Value} {below : List Frame} {meth : Method} {c : Code} {dC : Nat → ClassId} {dI : Nat → Nat → Nat} {A : Nat → Prop} {cB cI cJ : ClassId} {H : Heap} {locs : List Loc} {ls : Array Slot} {N : Nat} 
noncomputable def j_Sum_rotated_0 (x0 : Int32) (x1 : Int32)  : Option (Int32) :=
  (some ((x0 <<< (x1 &&& 31)) ||| (us32 x0 ((32 : Int32) - x1))) : Option (Int32))
set_option maxHeartbeats 4000000 in
set_option maxRecDepth 100000 in
theorem k_Sum_rotated_0 {r_z : Int32} (C : Fx p s m args meth c cd_Sum_rotated 2 R_Sum lw_g (some .int)) (hK : va_K (dC, dI) vwCl [(cB, .byte), (cI, .int), (cJ, .long)] s) (hA : ∀ q, s.heap.size ≤ q → A q) (x0 : Int32) (x1 : Int32)  (hf : j_Sum_rotated_0 x0 x1  = some r_z) (hP : va_P (dC, dI) vwCl (wd_Sum_rotated cB cI cJ) H) (hD : va_D A (wd_Sum_rotated cB cI cJ)) (hS : va_S A s.heap H locs) (hl : lv_has ls 2 [(0, .int x0), (1, .int x1)]) : W p l e rm_Sum_rotated s m args below meth c H locs 0 0 (MQ below (sQi (dC, dI) vwCl [(cB, .byte), (cI, .int), (cJ, .long)] A r_z (wd_Sum_rotated cB cI cJ)) args s 0 0 A) (F0 m 0 ls []) := by
  obtain ⟨hx, hb, hml, hown, hts, hr, hlocks, hZ⟩ := id C
  unfold j_Sum_rotated_0 at hf
  refine lv_iload_n hx hb d_Sum_rotated_0 rfl (lv_at hl 0 rfl) ?_
  refine lv_iload_n hx hb d_Sum_rotated_1 rfl (lv_at hl 1 rfl) ?_
  refine lv_ishl hx hb d_Sum_rotated_2 ?_
  refine lv_iload_n hx hb d_Sum_rotated_3 rfl (lv_at hl 0 rfl) ?_
  refine lv_bipush (v := 32) hx hb d_Sum_rotated_4 (by decide) ?_
  refine lv_iload_n hx hb d_Sum_rotated_6 rfl (lv_at hl 1 rfl) ?_
  refine lv_isub hx hb d_Sum_rotated_7 ?_
  refine lv_iushr (v := (us32 x0 ((32 : Int32) - x1))) hx hb d_Sum_rotated_8 rfl ?_
  refine lv_ior hx hb d_Sum_rotated_9 ?_
  cases hf
  exact s_iret hx hb hr hlocks hP hK hD hS d_Sum_rotated_10
end
noncomputable abbrev f_Sum_rotated (x0 : Int32) (x1 : Int32) : Option (Int32) := j_Sum_rotated_0 x0 x1
set_option maxRecDepth 100000 in
theorem c_Sum_rotated (l : Launch) (dC : Nat → ClassId) (dI : Nat → Nat → Nat) (cB cI cJ : ClassId)   (x0 : Int32) (x1 : Int32) {r_z : Int32} (hf : f_Sum_rotated x0 x1 = some r_z) : MetI l y_Sum_rotated ws_Sum_rotated rm_Sum_rotated (dC, dI) vwCl [(cB, .byte), (cI, .int), (cJ, .long)] [.int x0, .int x1] (wd_Sum_rotated cB cI cJ) r_z (wd_Sum_rotated cB cI cJ) 0 0 :=
  s_ofi (bytes := cd_Sum_rotated) (maxL := 2) (ret := (some .int)) (by decide) rfl (Nat.le_of_ble_eq_true rfl) (fun p e s m below meth c A ls C hK hA hP hD hS hl => k_Sum_rotated_0 C hK hA x0 x1 hf hP hD hS (lv_sub hl [0, 1] rfl))
