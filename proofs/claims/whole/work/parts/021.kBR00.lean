abbrev wd_BR_fault (br g hs t : Nat) (cB cI cJ : ClassId) (b_at : Int32) (b_end : Int32) (b_start : Int32) (b_most : Int32) (b_dist : Int32) (b_place : Int32) : va_W := [(br, .inr (5, [.ref g, .ref hs, .ref t, .int b_at, .int b_end, .int b_start, .int b_most, .int b_dist, .int b_place]))]
abbrev rm_BR_fault : Room := { frames := 0, cells := 0, slots := 0, locals := 0 }
section
variable {p : Program} {l : Launch} {e : Env} {s : State} {m : MethodId} {args : Array Value} {below : List Frame} {meth : Method} {c : Code} {dC : Nat → ClassId} {dI : Nat → Nat → Nat} {A : Nat → Prop} {cB cI cJ : ClassId} {H : Heap} {locs : List Loc} {ls : Array Slot} {N : Nat} {br g hs t : Nat}
noncomputable def j_BR_fault_0 (x1 : Int32) (x2 : Int32)  : Option (Int32 × Int32) :=
  (some (x1, x2) : Option (Int32 × Int32))
set_option maxHeartbeats 4000000 in
set_option maxRecDepth 100000 in
theorem k_BR_fault_0 {r_z : Int32} {b_place_z : Int32} (C : Fx p s m args meth c cd_BR_fault 3 R_BR lw_g (some .int)) (hK : va_K (dC, dI) vwCl [(cB, .byte), (cI, .int), (cJ, .long)] s) (hA : ∀ q, s.heap.size ≤ q → A q) (x1 : Int32) (x2 : Int32) (b_at : Int32) (b_end : Int32) (b_start : Int32) (b_most : Int32) (b_dist : Int32) (b_place : Int32)  (hf : j_BR_fault_0 x1 x2  = some (r_z, b_place_z)) (hP : va_P (dC, dI) vwCl (wd_BR_fault br g hs t cB cI cJ b_at b_end b_start b_most b_dist b_place) H) (hD : va_D A (wd_BR_fault br g hs t cB cI cJ b_at b_end b_start b_most b_dist b_place)) (hS : va_S A s.heap H locs) (hl : lv_has ls 3 [(0, .ref br), (1, .int x1), (2, .int x2)]) : W p l e rm_BR_fault s m args below meth c H locs 0 0 (MQ below (sQi (dC, dI) vwCl [(cB, .byte), (cI, .int), (cJ, .long)] A r_z (wd_BR_fault br g hs t cB cI cJ b_at b_end b_start b_most b_dist b_place_z)) args s 0 0 A) (F0 m 0 ls []) := by
  obtain ⟨hx, hb, hml, hown, hts, hr, hlocks, hZ⟩ := id C
  unfold j_BR_fault_0 at hf
  refine lv_aload_n hx hb d_BR_fault_0 rfl (lv_at hl 0 rfl) ?_
  refine lv_iload_n hx hb d_BR_fault_1 rfl (lv_at hl 2 rfl) ?_
  refine va_put (D := (dC, dI)) (ci := 5) (v := .int x2) (ty := .int) (C := R_BR) (T := T_BR) (N := 9) hx hb hts w_226 ty_BR ty_BR_ok nm_BR hown hK hP hD hS 0 rfl rfl 8 (by decide) (hts _ w_227) (fun _ h9 => h9) rfl (by decide +kernel) rfl rfl (Nat.le_of_ble_eq_true rfl) d_BR_fault_2 (fun H locs hP hD hS => ?_)
  have hP : va_P (dC, dI) vwCl (wd_BR_fault br g hs t cB cI cJ b_at b_end b_start b_most b_dist x2) H := hP
  have hD : va_D A (wd_BR_fault br g hs t cB cI cJ b_at b_end b_start b_most b_dist x2) := hD
  refine lv_iload_n hx hb d_BR_fault_5 rfl (lv_at hl 1 rfl) ?_
  cases hf
  exact s_iret hx hb hr hlocks hP hK hD hS d_BR_fault_6
end
noncomputable abbrev f_BR_fault (x1 : Int32) (x2 : Int32) : Option (Int32 × Int32) := j_BR_fault_0 x1 x2
set_option maxRecDepth 100000 in
theorem c_BR_fault (l : Launch) (dC : Nat → ClassId) (dI : Nat → Nat → Nat) (cB cI cJ : ClassId) (br g hs t : Nat) (b_at : Int32) (b_end : Int32) (b_start : Int32) (b_most : Int32) (b_dist : Int32) (b_place : Int32) (x1 : Int32) (x2 : Int32) {r_z : Int32} {b_place_z : Int32} (hf : f_BR_fault x1 x2 = some (r_z, b_place_z)) : MetI l y_BR_fault ws_BR_fault rm_BR_fault (dC, dI) vwCl [(cB, .byte), (cI, .int), (cJ, .long)] [.ref br, .int x1, .int x2] (wd_BR_fault br g hs t cB cI cJ b_at b_end b_start b_most b_dist b_place) r_z (wd_BR_fault br g hs t cB cI cJ b_at b_end b_start b_most b_dist b_place_z) 0 0 :=
  s_ofi (bytes := cd_BR_fault) (maxL := 3) (ret := (some .int)) (by decide) rfl (Nat.le_of_ble_eq_true rfl) (fun p e s m below meth c A ls C hK hA hP hD hS hl => k_BR_fault_0 C hK hA x1 x2 b_at b_end b_start b_most b_dist b_place hf hP hD hS (lv_sub hl [0, 1, 2] rfl))

abbrev wd_BR_grown (br g ga hs t : Nat) (cB cI cJ : ClassId) (b_at : Int32) (b_end : Int32) (b_start : Int32) (b_most : Int32) (b_dist : Int32) (b_place : Int32) (gn : Int32) (gf : Nat → Int32) : va_W := [(br, .inr (5, [.ref g, .ref hs, .ref t, .int b_at, .int b_end, .int b_start, .int b_most, .int b_dist, .int b_place])), (g, .inr (1, [.ref ga, .int gn])), (ga, .inl (cB, 8000, .inl gf))]
abbrev rm_BR_grown : Room := { frames := 1, cells := 0, slots := 0, locals := 21 }
section
variable {p : Program} {l : Launch} {e : Env} {s : State} {m : MethodId} {args : Array Value} {below : List Frame} {meth : Method} {c : Code} {dC : Nat → ClassId} {dI : Nat → Nat → Nat} {A : Nat → Prop} {cB cI cJ : ClassId} {H : Heap} {locs : List Loc} {ls : Array Slot} {N : Nat} {br g ga hs t : Nat}
noncomputable def b_BR_grown_10 (b_end : Int32) (gn : Int32) (gf : Nat → Int32)  (kh10 : Int32 → Int32 → Option (Int32 × Int32)) (x2 : Int32) (b_at : Int32) : Option (Int32 × Int32) :=
  (if b_end ≤ b_at then (some ((-1 : Int32), b_at) : Option (Int32 × Int32)) else bd1 (f_Row_get 8000 b_at gn gf) (fun r29 => (if r29 = (255 : Int32) then (kh10 (x2 + r29) (b_at + (1 : Int32))) else (some ((x2 + r29), (b_at + (1 : Int32))) : Option (Int32 × Int32)))))
set_option maxHeartbeats 4000000 in
set_option maxRecDepth 100000 in
theorem k_BR_grown_10 {r_z : Int32} {b_at_z : Int32} (C : Fx p s m args meth c cd_BR_grown 4 R_BR lw_g (some .int)) (hK : va_K (dC, dI) vwCl [(cB, .byte), (cI, .int), (cJ, .long)] s) (hA : ∀ q, s.heap.size ≤ q → A q) (b_end : Int32) (b_start : Int32) (b_most : Int32) (b_dist : Int32) (b_place : Int32) (gn : Int32) (gf : Nat → Int32)  : ∀ (n : Nat) (x2 : Int32) (b_at : Int32), loop2 (b_BR_grown_10 b_end gn gf ) n x2 b_at = some (r_z, b_at_z) → ∀ (H : Heap) (locs : List Loc), va_P (dC, dI) vwCl (wd_BR_grown br g ga hs t cB cI cJ b_at b_end b_start b_most b_dist b_place gn gf) H → va_D A (wd_BR_grown br g ga hs t cB cI cJ b_at b_end b_start b_most b_dist b_place gn gf) → va_S A s.heap H locs → ∀ (ls : Array Slot), lv_has ls 4 [(0, .ref br), (2, .int x2)] → W p l e rm_BR_grown s m args below meth c H locs 0 0 (MQ below (sQi (dC, dI) vwCl [(cB, .byte), (cI, .int), (cJ, .long)] A r_z (wd_BR_grown br g ga hs t cB cI cJ b_at_z b_end b_start b_most b_dist b_place gn gf)) args s 0 0 A) (F0 m 10 ls []) := by
  obtain ⟨hx, hb, hml, hown, hts, hr, hlocks, hZ⟩ := id C
  intro n
  induction n with
  | zero => intro x2 b_at hf; cases hf
  | succ n ih10 =>
    intro x2 b_at hf H locs hP hD hS ls hl
    have hf : b_BR_grown_10 b_end gn gf  (loop2 (b_BR_grown_10 b_end gn gf ) n) x2 b_at = some (r_z, b_at_z) := hf
    generalize loop2 (b_BR_grown_10 b_end gn gf ) n = kh10 at hf ih10
    unfold b_BR_grown_10 at hf
    refine lv_aload_n hx hb d_BR_grown_10 rfl (lv_at hl 0 rfl) ?_
    refine va_get (D := (dC, dI)) (ci := 5) (v := .int b_at) (C := R_BR) (T := T_BR) (N := 9) hx hb hts w_226 hown hK hP 0 rfl rfl 3 (by decide) (hts _ w_228) (fun _ h9 => h9) rfl d_BR_grown_11 ?_
    refine lv_aload_n hx hb d_BR_grown_14 rfl (lv_at hl 0 rfl) ?_
    refine va_get (D := (dC, dI)) (ci := 5) (v := .int b_end) (C := R_BR) (T := T_BR) (N := 9) hx hb hts w_226 hown hK hP 0 rfl rfl 4 (by decide) (hts _ w_229) (fun _ h9 => h9) rfl d_BR_grown_15 ?_
    refine lv_icmp_ge (tgt := 69) hx hb d_BR_grown_18 (by decide) (fun c_18 => ?_) (fun c_18 => ?_)
    · have hf := br_pos c_18 hf
      refine lv_iconst (v := -1) hx hb d_BR_grown_69 (by decide) ?_
      cases hf
      exact s_iret hx hb hr hlocks hP hK hD hS d_BR_grown_70
    · have hf := br_neg c_18 hf
      refine lv_aload_n hx hb d_BR_grown_21 rfl (lv_at hl 0 rfl) ?_
      refine va_get (D := (dC, dI)) (ci := 5) (v := .ref g) (C := R_BR) (T := T_BR) (N := 9) hx hb hts w_226 hown hK hP 0 rfl rfl 0 (by decide) (hts _ w_230) (fun _ h9 => h9) rfl d_BR_grown_22 ?_
      refine lv_aload_n hx hb d_BR_grown_25 rfl (lv_at hl 0 rfl) ?_
      refine va_get (D := (dC, dI)) (ci := 5) (v := .int b_at) (C := R_BR) (T := T_BR) (N := 9) hx hb hts w_226 hown hK hP 0 rfl rfl 3 (by decide) (hts _ w_228) (fun _ h9 => h9) rfl d_BR_grown_26 ?_
      obtain ⟨r29, hc29, hf⟩ := bd1_some hf
      refine s_Vi (As := [.int b_at]) (rest := []) (wr := [(br, .inr (5, [.ref g, .ref hs, .ref t, .int b_at, .int b_end, .int b_start, .int b_most, .int b_dist, .int b_place]))]) (ws' := wd_BR_grown br g ga hs t cB cI cJ b_at b_end b_start b_most b_dist b_place gn gf) C.call (c_Row_get l dC dI cB cI cJ g ga 8000 gn gf b_at hc29) (cwV 1 hts (gd_V w_231 w_80 w_81 w_12 w_82) rfl rfl rfl ⟨rfl, hd_Row_get⟩ ⟨Nat.le_of_ble_eq_true rfl, Nat.le_of_ble_eq_true rfl⟩) rfl hl.1 rfl (Nat.le_of_ble_eq_true rfl) d_BR_grown_29 ⟨Nat.le_of_ble_eq_true rfl, Nat.le_of_ble_eq_true rfl⟩ hZ hK hP hD hS hA 1 1 rfl rfl [1, 2] [0] [0, 1, 2] rfl rfl rfl rfl (by decide) rfl rfl (fun H locs hP hD hS => ?_)
      refine lv_istore_n (lv' := [(3, .int r29), (0, .ref br), (2, .int x2)]) hx hb d_BR_grown_32 rfl hl (by decide) rfl (fun ls hl => ?_)
      refine lv_iload_n hx hb d_BR_grown_33 rfl (lv_at hl 2 rfl) ?_
      refine lv_iload_n hx hb d_BR_grown_34 rfl (lv_at hl 0 rfl) ?_
      refine lv_iadd hx hb d_BR_grown_35 ?_
      refine lv_istore_n (lv' := [(2, .int (x2 + r29)), (3, .int r29), (0, .ref br)]) hx hb d_BR_grown_36 rfl hl (by decide) rfl (fun ls hl => ?_)
      refine lv_iload_n hx hb d_BR_grown_37 rfl (lv_at hl 1 rfl) ?_
      refine lv_sipush (v := 255) hx hb d_BR_grown_38 (by decide) ?_
      refine lv_icmp_eq (tgt := 56) hx hb d_BR_grown_41 (by decide) (fun c_41 => ?_) (fun c_41 => ?_)
      · have hf := br_pos c_41 hf
        refine lv_aload_n hx hb d_BR_grown_56 rfl (lv_at hl 2 rfl) ?_
        refine lv_dup hx hb d_BR_grown_57 rfl ?_
        refine va_get (D := (dC, dI)) (ci := 5) (v := .int b_at) (C := R_BR) (T := T_BR) (N := 9) hx hb hts w_226 hown hK hP 0 rfl rfl 3 (by decide) (hts _ w_228) (fun _ h9 => h9) rfl d_BR_grown_58 ?_
        refine lv_iconst (v := 1) hx hb d_BR_grown_61 (by decide) ?_
        refine lv_iadd hx hb d_BR_grown_62 ?_
        refine va_put (D := (dC, dI)) (ci := 5) (v := .int (b_at + (1 : Int32))) (ty := .int) (C := R_BR) (T := T_BR) (N := 9) hx hb hts w_226 ty_BR ty_BR_ok nm_BR hown hK hP hD hS 0 rfl rfl 3 (by decide) (hts _ w_228) (fun _ h9 => h9) rfl (by decide +kernel) rfl rfl (Nat.le_of_ble_eq_true rfl) d_BR_grown_63 (fun H locs hP hD hS => ?_)
        have hP : va_P (dC, dI) vwCl (wd_BR_grown br g ga hs t cB cI cJ (b_at + (1 : Int32)) b_end b_start b_most b_dist b_place gn gf) H := hP
        have hD : va_D A (wd_BR_grown br g ga hs t cB cI cJ (b_at + (1 : Int32)) b_end b_start b_most b_dist b_place gn gf) := hD
        refine lv_goto (tgt := 10) hx hb d_BR_grown_66 (by decide) ?_
        exact ih10 (x2 + r29) (b_at + (1 : Int32)) hf _ _ hP hD hS _ (lv_sub hl [2, 0] rfl)
      · have hf := br_neg c_41 hf
        refine lv_aload_n hx hb d_BR_grown_44 rfl (lv_at hl 2 rfl) ?_
        refine lv_dup hx hb d_BR_grown_45 rfl ?_
        refine va_get (D := (dC, dI)) (ci := 5) (v := .int b_at) (C := R_BR) (T := T_BR) (N := 9) hx hb hts w_226 hown hK hP 0 rfl rfl 3 (by decide) (hts _ w_228) (fun _ h9 => h9) rfl d_BR_grown_46 ?_
        refine lv_iconst (v := 1) hx hb d_BR_grown_49 (by decide) ?_
        refine lv_iadd hx hb d_BR_grown_50 ?_
        refine va_put (D := (dC, dI)) (ci := 5) (v := .int (b_at + (1 : Int32))) (ty := .int) (C := R_BR) (T := T_BR) (N := 9) hx hb hts w_226 ty_BR ty_BR_ok nm_BR hown hK hP hD hS 0 rfl rfl 3 (by decide) (hts _ w_228) (fun _ h9 => h9) rfl (by decide +kernel) rfl rfl (Nat.le_of_ble_eq_true rfl) d_BR_grown_51 (fun H locs hP hD hS => ?_)
        have hP : va_P (dC, dI) vwCl (wd_BR_grown br g ga hs t cB cI cJ (b_at + (1 : Int32)) b_end b_start b_most b_dist b_place gn gf) H := hP
        have hD : va_D A (wd_BR_grown br g ga hs t cB cI cJ (b_at + (1 : Int32)) b_end b_start b_most b_dist b_place gn gf) := hD
        refine lv_iload_n hx hb d_BR_grown_54 rfl (lv_at hl 0 rfl) ?_
        cases hf
        exact s_iret hx hb hr hlocks hP hK hD hS d_BR_grown_55
noncomputable def j_BR_grown_0 (N : Nat) (x1 : Int32) (b_at : Int32) (b_end : Int32) (gn : Int32) (gf : Nat → Int32)  : Option (Int32 × Int32) :=
  (if (15 : Int32) ≤ x1 then (loop2 (b_BR_grown_10 b_end gn gf ) N x1 b_at) else (some (x1, b_at) : Option (Int32 × Int32)))
set_option maxHeartbeats 4000000 in
set_option maxRecDepth 100000 in
theorem k_BR_grown_0 {r_z : Int32} {b_at_z : Int32} (C : Fx p s m args meth c cd_BR_grown 4 R_BR lw_g (some .int)) (hK : va_K (dC, dI) vwCl [(cB, .byte), (cI, .int), (cJ, .long)] s) (hA : ∀ q, s.heap.size ≤ q → A q) (x1 : Int32) (b_at : Int32) (b_end : Int32) (b_start : Int32) (b_most : Int32) (b_dist : Int32) (b_place : Int32) (gn : Int32) (gf : Nat → Int32)  (hf : j_BR_grown_0 N x1 b_at b_end gn gf  = some (r_z, b_at_z)) (hP : va_P (dC, dI) vwCl (wd_BR_grown br g ga hs t cB cI cJ b_at b_end b_start b_most b_dist b_place gn gf) H) (hD : va_D A (wd_BR_grown br g ga hs t cB cI cJ b_at b_end b_start b_most b_dist b_place gn gf)) (hS : va_S A s.heap H locs) (hl : lv_has ls 4 [(0, .ref br), (1, .int x1)]) : W p l e rm_BR_grown s m args below meth c H locs 0 0 (MQ below (sQi (dC, dI) vwCl [(cB, .byte), (cI, .int), (cJ, .long)] A r_z (wd_BR_grown br g ga hs t cB cI cJ b_at_z b_end b_start b_most b_dist b_place gn gf)) args s 0 0 A) (F0 m 0 ls []) := by
  obtain ⟨hx, hb, hml, hown, hts, hr, hlocks, hZ⟩ := id C
  unfold j_BR_grown_0 at hf
  refine lv_iload_n hx hb d_BR_grown_0 rfl (lv_at hl 1 rfl) ?_
  refine lv_bipush (v := 15) hx hb d_BR_grown_1 (by decide) ?_
  refine lv_icmp_ge (tgt := 8) hx hb d_BR_grown_3 (by decide) (fun c_3 => ?_) (fun c_3 => ?_)
  · have hf := br_pos c_3 hf
    refine lv_iload_n hx hb d_BR_grown_8 rfl (lv_at hl 1 rfl) ?_
    refine lv_istore_n (lv' := [(2, .int x1), (0, .ref br), (1, .int x1)]) hx hb d_BR_grown_9 rfl hl (by decide) rfl (fun ls hl => ?_)
    exact k_BR_grown_10 C hK hA b_end b_start b_most b_dist b_place gn gf  N x1 b_at hf _ _ hP hD hS _ (lv_sub hl [1, 0] rfl)
  · have hf := br_neg c_3 hf
    refine lv_iload_n hx hb d_BR_grown_6 rfl (lv_at hl 1 rfl) ?_
    cases hf
    exact s_iret hx hb hr hlocks hP hK hD hS d_BR_grown_7
end
noncomputable abbrev f_BR_grown (N : Nat) (x1 : Int32) (b_at : Int32) (b_end : Int32) (gn : Int32) (gf : Nat → Int32) : Option (Int32 × Int32) := j_BR_grown_0 N x1 b_at b_end gn gf
set_option maxRecDepth 100000 in
theorem c_BR_grown {N : Nat} (l : Launch) (dC : Nat → ClassId) (dI : Nat → Nat → Nat) (cB cI cJ : ClassId) (br g ga hs t : Nat) (b_at : Int32) (b_end : Int32) (b_start : Int32) (b_most : Int32) (b_dist : Int32) (b_place : Int32) (gn : Int32) (gf : Nat → Int32) (x1 : Int32) {r_z : Int32} {b_at_z : Int32} (hf : f_BR_grown N x1 b_at b_end gn gf = some (r_z, b_at_z)) : MetI l y_BR_grown ws_BR_grown rm_BR_grown (dC, dI) vwCl [(cB, .byte), (cI, .int), (cJ, .long)] [.ref br, .int x1] (wd_BR_grown br g ga hs t cB cI cJ b_at b_end b_start b_most b_dist b_place gn gf) r_z (wd_BR_grown br g ga hs t cB cI cJ b_at_z b_end b_start b_most b_dist b_place gn gf) 0 0 :=
  s_ofi (bytes := cd_BR_grown) (maxL := 4) (ret := (some .int)) (by decide) rfl (Nat.le_of_ble_eq_true rfl) (fun p e s m below meth c A ls C hK hA hP hD hS hl => k_BR_grown_0 C hK hA x1 b_at b_end b_start b_most b_dist b_place gn gf hf hP hD hS (lv_sub hl [0, 1] rfl))

abbrev wd_BR_takeCopy (br hs hsa t ta g : Nat) (cB cI cJ : ClassId) (b_at : Int32) (b_end : Int32) (b_start : Int32) (b_most : Int32) (b_dist : Int32) (b_place : Int32) (hsn : Int32) (hsf : Nat → Int32) (tn : Int32) (tf : Nat → Int32) : va_W := [(br, .inr (5, [.ref g, .ref hs, .ref t, .int b_at, .int b_end, .int b_start, .int b_most, .int b_dist, .int b_place])), (hs, .inr (1, [.ref hsa, .int hsn])), (hsa, .inl (cB, 8000, .inl hsf)), (t, .inr (1, [.ref ta, .int tn])), (ta, .inl (cB, 8000, .inl tf))]
abbrev rm_BR_takeCopy : Room := { frames := 1, cells := 0, slots := 0, locals := 22 }
section
variable {p : Program} {l : Launch} {e : Env} {s : State} {m : MethodId} {args : Array Value} {below : List Frame} {meth : Method} {c : Code} {dC : Nat → ClassId} {dI : Nat → Nat → Nat} {A : Nat → Prop} {cB cI cJ : ClassId} {H : Heap} {locs : List Loc} {ls : Array Slot} {N : Nat} {br hs hsa t ta g : Nat}
noncomputable def j_BR_takeCopy_111 (x4 : Int32) (t0 : Int32) (tn : Int32) (tf : Nat → Int32) (kh44 : Int32 → Int32 → (Nat → Int32) → Option (Int32 × Int32 × Int32 × (Nat → Int32))) : Option (Int32 × Int32 × Int32 × (Nat → Int32)) :=
  bd3 (f_Row_add 8000 t0 tn tf) (fun r111 tn_111 tf_111 => (kh44 (x4 + 1) tn_111 tf_111))
set_option maxHeartbeats 4000000 in
set_option maxRecDepth 100000 in
theorem k_BR_takeCopy_111 {r_z : Int32} {b_place_z : Int32} {tn_z : Int32} {tf_z : Nat → Int32} (C : Fx p s m args meth c cd_BR_takeCopy 6 R_BR lw_g (some .int)) (hK : va_K (dC, dI) vwCl [(cB, .byte), (cI, .int), (cJ, .long)] s) (hA : ∀ q, s.heap.size ≤ q → A q) (x3 : Int32) (x4 : Int32) (t0 : Int32) (b_at : Int32) (b_end : Int32) (b_start : Int32) (b_most : Int32) (b_dist : Int32) (b_place : Int32) (hsn : Int32) (hsf : Nat → Int32) (tn : Int32) (tf : Nat → Int32) (kh44 : Int32 → Int32 → (Nat → Int32) → Option (Int32 × Int32 × Int32 × (Nat → Int32))) (ih44 : ∀ (x4 : Int32) (tn : Int32) (tf : Nat → Int32), kh44 x4 tn tf = some (r_z, b_place_z, tn_z, tf_z) → ∀ (H : Heap) (locs : List Loc), va_P (dC, dI) vwCl (wd_BR_takeCopy br hs hsa t ta g cB cI cJ b_at b_end b_start b_most b_dist b_place hsn hsf tn tf) H → va_D A (wd_BR_takeCopy br hs hsa t ta g cB cI cJ b_at b_end b_start b_most b_dist b_place hsn hsf tn tf) → va_S A s.heap H locs → ∀ (ls : Array Slot), lv_has ls 6 [(0, .ref br), (3, .int x3), (4, .int x4)] → W p l e rm_BR_takeCopy s m args below meth c H locs 0 0 (MQ below (sQi (dC, dI) vwCl [(cB, .byte), (cI, .int), (cJ, .long)] A r_z (wd_BR_takeCopy br hs hsa t ta g cB cI cJ b_at b_end b_start b_most b_dist b_place_z hsn hsf tn_z tf_z)) args s 0 0 A) (F0 m 44 ls [])) (hf : j_BR_takeCopy_111 x4 t0 tn tf kh44 = some (r_z, b_place_z, tn_z, tf_z)) (hP : va_P (dC, dI) vwCl (wd_BR_takeCopy br hs hsa t ta g cB cI cJ b_at b_end b_start b_most b_dist b_place hsn hsf tn tf) H) (hD : va_D A (wd_BR_takeCopy br hs hsa t ta g cB cI cJ b_at b_end b_start b_most b_dist b_place hsn hsf tn tf)) (hS : va_S A s.heap H locs) (hl : lv_has ls 6 [(0, .ref br), (3, .int x3), (4, .int x4)]) : W p l e rm_BR_takeCopy s m args below meth c H locs 0 0 (MQ below (sQi (dC, dI) vwCl [(cB, .byte), (cI, .int), (cJ, .long)] A r_z (wd_BR_takeCopy br hs hsa t ta g cB cI cJ b_at b_end b_start b_most b_dist b_place_z hsn hsf tn_z tf_z)) args s 0 0 A) (F0 m 111 ls [.int t0, .ref t]) := by
  obtain ⟨hx, hb, hml, hown, hts, hr, hlocks, hZ⟩ := id C
  unfold j_BR_takeCopy_111 at hf
  obtain ⟨r111, tn_111, tf_111, hc111, hf⟩ := bd3_some hf
  refine s_Vi (As := [.int t0]) (rest := []) (wr := [(br, .inr (5, [.ref g, .ref hs, .ref t, .int b_at, .int b_end, .int b_start, .int b_most, .int b_dist, .int b_place])), (hs, .inr (1, [.ref hsa, .int hsn])), (hsa, .inl (cB, 8000, .inl hsf))]) (ws' := wd_BR_takeCopy br hs hsa t ta g cB cI cJ b_at b_end b_start b_most b_dist b_place hsn hsf tn_111 tf_111) C.call (c_Row_add l dC dI cB cI cJ t ta 8000 tn tf t0 hc111) (cwV 1 hts (gd_V w_238 w_41 w_42 w_12 w_43) rfl rfl rfl ⟨rfl, hd_Row_add⟩ ⟨Nat.le_of_ble_eq_true rfl, Nat.le_of_ble_eq_true rfl⟩) rfl hl.1 rfl (Nat.le_of_ble_eq_true rfl) d_BR_takeCopy_111 ⟨Nat.le_of_ble_eq_true rfl, Nat.le_of_ble_eq_true rfl⟩ hZ hK hP hD hS hA 1 3 rfl rfl [3, 4] [0, 1, 2] [0, 1, 2, 3, 4] rfl rfl rfl rfl (by decide) rfl rfl (fun H locs hP hD hS => ?_)
  refine lv_pop hx hb d_BR_takeCopy_114 rfl ?_
  refine lv_iinc (v := (x4 + 1)) (lv' := [(4, .int (x4 + 1)), (0, .ref br), (3, .int x3)]) hx hb d_BR_takeCopy_115 hl (k := 2) rfl (congrArg (fun z => x4 + z) (by decide)) (by decide) rfl (fun ls hl => ?_)
  refine lv_goto (tgt := 44) hx hb d_BR_takeCopy_118 (by decide) ?_
  exact ih44 (x4 + 1) tn_111 tf_111 hf _ _ hP hD hS _ (lv_sub hl [1, 2, 0] rfl)
noncomputable def b_BR_takeCopy_44 (x3 : Int32) (b_start : Int32) (b_dist : Int32) (b_place : Int32) (hsn : Int32) (hsf : Nat → Int32)  (kh44 : Int32 → Int32 → (Nat → Int32) → Option (Int32 × Int32 × Int32 × (Nat → Int32))) (x4 : Int32) (tn : Int32) (tf : Nat → Int32) : Option (Int32 × Int32 × Int32 × (Nat → Int32)) :=
  (if x3 ≤ x4 then (some ((0 : Int32), b_place, tn, tf) : Option (Int32 × Int32 × Int32 × (Nat → Int32))) else bd1 (f_Row_count tn) (fun r54 => (if (r54 - b_dist) < b_start then bd1 (f_Row_count hsn) (fun r97 => bd1 (f_Row_get 8000 ((r97 + (r54 - b_dist)) - b_start) hsn hsf) (fun r108 => (j_BR_takeCopy_111 x4 r108 tn tf kh44))) else bd1 (f_Row_get 8000 (r54 - b_dist) tn tf) (fun r83 => (j_BR_takeCopy_111 x4 r83 tn tf kh44)))))
set_option maxHeartbeats 4000000 in
set_option maxRecDepth 100000 in
theorem k_BR_takeCopy_44 {r_z : Int32} {b_place_z : Int32} {tn_z : Int32} {tf_z : Nat → Int32} (C : Fx p s m args meth c cd_BR_takeCopy 6 R_BR lw_g (some .int)) (hK : va_K (dC, dI) vwCl [(cB, .byte), (cI, .int), (cJ, .long)] s) (hA : ∀ q, s.heap.size ≤ q → A q) (x3 : Int32) (b_at : Int32) (b_end : Int32) (b_start : Int32) (b_most : Int32) (b_dist : Int32) (b_place : Int32) (hsn : Int32) (hsf : Nat → Int32)  : ∀ (n : Nat) (x4 : Int32) (tn : Int32) (tf : Nat → Int32), loop3 (b_BR_takeCopy_44 x3 b_start b_dist b_place hsn hsf ) n x4 tn tf = some (r_z, b_place_z, tn_z, tf_z) → ∀ (H : Heap) (locs : List Loc), va_P (dC, dI) vwCl (wd_BR_takeCopy br hs hsa t ta g cB cI cJ b_at b_end b_start b_most b_dist b_place hsn hsf tn tf) H → va_D A (wd_BR_takeCopy br hs hsa t ta g cB cI cJ b_at b_end b_start b_most b_dist b_place hsn hsf tn tf) → va_S A s.heap H locs → ∀ (ls : Array Slot), lv_has ls 6 [(0, .ref br), (3, .int x3), (4, .int x4)] → W p l e rm_BR_takeCopy s m args below meth c H locs 0 0 (MQ below (sQi (dC, dI) vwCl [(cB, .byte), (cI, .int), (cJ, .long)] A r_z (wd_BR_takeCopy br hs hsa t ta g cB cI cJ b_at b_end b_start b_most b_dist b_place_z hsn hsf tn_z tf_z)) args s 0 0 A) (F0 m 44 ls []) := by
  obtain ⟨hx, hb, hml, hown, hts, hr, hlocks, hZ⟩ := id C
  intro n
  induction n with
  | zero => intro x4 tn tf hf; cases hf
  | succ n ih44 =>
    intro x4 tn tf hf H locs hP hD hS ls hl
    have hf : b_BR_takeCopy_44 x3 b_start b_dist b_place hsn hsf  (loop3 (b_BR_takeCopy_44 x3 b_start b_dist b_place hsn hsf ) n) x4 tn tf = some (r_z, b_place_z, tn_z, tf_z) := hf
    generalize loop3 (b_BR_takeCopy_44 x3 b_start b_dist b_place hsn hsf ) n = kh44 at hf ih44
    unfold b_BR_takeCopy_44 at hf
    refine lv_iload hx hb d_BR_takeCopy_44 (lv_at hl 2 rfl) ?_
    refine lv_iload_n hx hb d_BR_takeCopy_46 rfl (lv_at hl 1 rfl) ?_
    refine lv_icmp_ge (tgt := 121) hx hb d_BR_takeCopy_47 (by decide) (fun c_47 => ?_) (fun c_47 => ?_)
    · have hf := br_pos c_47 hf
      refine lv_iconst (v := 0) hx hb d_BR_takeCopy_121 (by decide) ?_
      cases hf
      exact s_iret hx hb hr hlocks hP hK hD hS d_BR_takeCopy_122
    · have hf := br_neg c_47 hf
      refine lv_aload_n hx hb d_BR_takeCopy_50 rfl (lv_at hl 0 rfl) ?_
      refine va_get (D := (dC, dI)) (ci := 5) (v := .ref t) (C := R_BR) (T := T_BR) (N := 9) hx hb hts w_226 hown hK hP 0 rfl rfl 2 (by decide) (hts _ w_233) (fun _ h9 => h9) rfl d_BR_takeCopy_51 ?_
      obtain ⟨r54, hc54, hf⟩ := bd1_some hf
      refine s_Vi (As := []) (rest := []) (wr := [(br, .inr (5, [.ref g, .ref hs, .ref t, .int b_at, .int b_end, .int b_start, .int b_most, .int b_dist, .int b_place])), (hs, .inr (1, [.ref hsa, .int hsn])), (hsa, .inl (cB, 8000, .inl hsf)), (ta, .inl (cB, 8000, .inl tf))]) (ws' := wd_BR_takeCopy br hs hsa t ta g cB cI cJ b_at b_end b_start b_most b_dist b_place hsn hsf tn tf) C.call (c_Row_count l dC dI cB cI cJ t ta  tn  hc54) (cwV 0 hts (gd_V w_234 w_10 w_11 w_12 w_13) rfl rfl rfl ⟨rfl, hd_Row_count⟩ ⟨Nat.le_of_ble_eq_true rfl, Nat.le_of_ble_eq_true rfl⟩) rfl hl.1 rfl (Nat.le_of_ble_eq_true rfl) d_BR_takeCopy_54 ⟨Nat.le_of_ble_eq_true rfl, Nat.le_of_ble_eq_true rfl⟩ hZ hK hP hD hS hA 1 3 rfl rfl [3] [0, 1, 2, 4] [0, 1, 2, 4, 3] rfl rfl rfl rfl (by decide) rfl rfl (fun H locs hP hD hS => ?_)
      refine lv_aload_n hx hb d_BR_takeCopy_57 rfl (lv_at hl 0 rfl) ?_
      refine va_get (D := (dC, dI)) (ci := 5) (v := .int b_dist) (C := R_BR) (T := T_BR) (N := 9) hx hb hts w_226 hown hK hP 0 rfl rfl 7 (by decide) (hts _ w_235) (fun _ h9 => h9) rfl d_BR_takeCopy_58 ?_
      refine lv_isub hx hb d_BR_takeCopy_61 ?_
      refine lv_istore (lv' := [(5, .int (r54 - b_dist)), (0, .ref br), (3, .int x3), (4, .int x4)]) hx hb d_BR_takeCopy_62 hl (by decide) rfl (fun ls hl => ?_)
      refine lv_aload_n hx hb d_BR_takeCopy_64 rfl (lv_at hl 1 rfl) ?_
      refine va_get (D := (dC, dI)) (ci := 5) (v := .ref t) (C := R_BR) (T := T_BR) (N := 9) hx hb hts w_226 hown hK hP 0 rfl rfl 2 (by decide) (hts _ w_233) (fun _ h9 => h9) rfl d_BR_takeCopy_65 ?_
      refine lv_iload hx hb d_BR_takeCopy_68 (lv_at hl 0 rfl) ?_
      refine lv_aload_n hx hb d_BR_takeCopy_70 rfl (lv_at hl 1 rfl) ?_
      refine va_get (D := (dC, dI)) (ci := 5) (v := .int b_start) (C := R_BR) (T := T_BR) (N := 9) hx hb hts w_226 hown hK hP 0 rfl rfl 5 (by decide) (hts _ w_236) (fun _ h9 => h9) rfl d_BR_takeCopy_71 ?_
      refine lv_icmp_lt (tgt := 89) hx hb d_BR_takeCopy_74 (by decide) (fun c_74 => ?_) (fun c_74 => ?_)
      · have hf := br_pos c_74 hf
        refine lv_aload_n hx hb d_BR_takeCopy_89 rfl (lv_at hl 1 rfl) ?_
        refine va_get (D := (dC, dI)) (ci := 5) (v := .ref hs) (C := R_BR) (T := T_BR) (N := 9) hx hb hts w_226 hown hK hP 0 rfl rfl 1 (by decide) (hts _ w_237) (fun _ h9 => h9) rfl d_BR_takeCopy_90 ?_
        refine lv_aload_n hx hb d_BR_takeCopy_93 rfl (lv_at hl 1 rfl) ?_
        refine va_get (D := (dC, dI)) (ci := 5) (v := .ref hs) (C := R_BR) (T := T_BR) (N := 9) hx hb hts w_226 hown hK hP 0 rfl rfl 1 (by decide) (hts _ w_237) (fun _ h9 => h9) rfl d_BR_takeCopy_94 ?_
        obtain ⟨r97, hc97, hf⟩ := bd1_some hf
        refine s_Vi (As := []) (rest := [.ref hs, .ref t]) (wr := [(br, .inr (5, [.ref g, .ref hs, .ref t, .int b_at, .int b_end, .int b_start, .int b_most, .int b_dist, .int b_place])), (hsa, .inl (cB, 8000, .inl hsf)), (t, .inr (1, [.ref ta, .int tn])), (ta, .inl (cB, 8000, .inl tf))]) (ws' := wd_BR_takeCopy br hs hsa t ta g cB cI cJ b_at b_end b_start b_most b_dist b_place hsn hsf tn tf) C.call (c_Row_count l dC dI cB cI cJ hs hsa  hsn  hc97) (cwV 0 hts (gd_V w_234 w_10 w_11 w_12 w_13) rfl rfl rfl ⟨rfl, hd_Row_count⟩ ⟨Nat.le_of_ble_eq_true rfl, Nat.le_of_ble_eq_true rfl⟩) rfl hl.1 rfl (Nat.le_of_ble_eq_true rfl) d_BR_takeCopy_97 ⟨Nat.le_of_ble_eq_true rfl, Nat.le_of_ble_eq_true rfl⟩ hZ hK hP hD hS hA 1 1 rfl rfl [1] [0, 2, 3, 4] [0, 4, 1, 2, 3] rfl rfl rfl rfl (by decide) rfl rfl (fun H locs hP hD hS => ?_)
        refine lv_iload hx hb d_BR_takeCopy_100 (lv_at hl 0 rfl) ?_
        refine lv_iadd hx hb d_BR_takeCopy_102 ?_
        refine lv_aload_n hx hb d_BR_takeCopy_103 rfl (lv_at hl 1 rfl) ?_
        refine va_get (D := (dC, dI)) (ci := 5) (v := .int b_start) (C := R_BR) (T := T_BR) (N := 9) hx hb hts w_226 hown hK hP 0 rfl rfl 5 (by decide) (hts _ w_236) (fun _ h9 => h9) rfl d_BR_takeCopy_104 ?_
        refine lv_isub hx hb d_BR_takeCopy_107 ?_
        obtain ⟨r108, hc108, hf⟩ := bd1_some hf
        refine s_Vi (As := [.int ((r97 + (r54 - b_dist)) - b_start)]) (rest := [.ref t]) (wr := [(br, .inr (5, [.ref g, .ref hs, .ref t, .int b_at, .int b_end, .int b_start, .int b_most, .int b_dist, .int b_place])), (t, .inr (1, [.ref ta, .int tn])), (ta, .inl (cB, 8000, .inl tf))]) (ws' := wd_BR_takeCopy br hs hsa t ta g cB cI cJ b_at b_end b_start b_most b_dist b_place hsn hsf tn tf) C.call (c_Row_get l dC dI cB cI cJ hs hsa 8000 hsn hsf ((r97 + (r54 - b_dist)) - b_start) hc108) (cwV 1 hts (gd_V w_231 w_80 w_81 w_12 w_82) rfl rfl rfl ⟨rfl, hd_Row_get⟩ ⟨Nat.le_of_ble_eq_true rfl, Nat.le_of_ble_eq_true rfl⟩) rfl hl.1 rfl (Nat.le_of_ble_eq_true rfl) d_BR_takeCopy_108 ⟨Nat.le_of_ble_eq_true rfl, Nat.le_of_ble_eq_true rfl⟩ hZ hK hP hD hS hA 1 1 rfl rfl [1, 2] [0, 3, 4] [0, 3, 4, 1, 2] rfl rfl rfl rfl (by decide) rfl rfl (fun H locs hP hD hS => ?_)
        exact k_BR_takeCopy_111 C hK hA x3 x4 r108 b_at b_end b_start b_most b_dist b_place hsn hsf tn tf kh44 ih44 hf hP hD hS (lv_sub hl [1, 2, 3] rfl)
      · have hf := br_neg c_74 hf
        refine lv_aload_n hx hb d_BR_takeCopy_77 rfl (lv_at hl 1 rfl) ?_
        refine va_get (D := (dC, dI)) (ci := 5) (v := .ref t) (C := R_BR) (T := T_BR) (N := 9) hx hb hts w_226 hown hK hP 0 rfl rfl 2 (by decide) (hts _ w_233) (fun _ h9 => h9) rfl d_BR_takeCopy_78 ?_
        refine lv_iload hx hb d_BR_takeCopy_81 (lv_at hl 0 rfl) ?_
        obtain ⟨r83, hc83, hf⟩ := bd1_some hf
        refine s_Vi (As := [.int (r54 - b_dist)]) (rest := [.ref t]) (wr := [(br, .inr (5, [.ref g, .ref hs, .ref t, .int b_at, .int b_end, .int b_start, .int b_most, .int b_dist, .int b_place])), (hs, .inr (1, [.ref hsa, .int hsn])), (hsa, .inl (cB, 8000, .inl hsf))]) (ws' := wd_BR_takeCopy br hs hsa t ta g cB cI cJ b_at b_end b_start b_most b_dist b_place hsn hsf tn tf) C.call (c_Row_get l dC dI cB cI cJ t ta 8000 tn tf (r54 - b_dist) hc83) (cwV 1 hts (gd_V w_231 w_80 w_81 w_12 w_82) rfl rfl rfl ⟨rfl, hd_Row_get⟩ ⟨Nat.le_of_ble_eq_true rfl, Nat.le_of_ble_eq_true rfl⟩) rfl hl.1 rfl (Nat.le_of_ble_eq_true rfl) d_BR_takeCopy_83 ⟨Nat.le_of_ble_eq_true rfl, Nat.le_of_ble_eq_true rfl⟩ hZ hK hP hD hS hA 1 3 rfl rfl [3, 4] [0, 1, 2] [0, 1, 2, 3, 4] rfl rfl rfl rfl (by decide) rfl rfl (fun H locs hP hD hS => ?_)
        refine lv_goto (tgt := 111) hx hb d_BR_takeCopy_86 (by decide) ?_
        exact k_BR_takeCopy_111 C hK hA x3 x4 r83 b_at b_end b_start b_most b_dist b_place hsn hsf tn tf kh44 ih44 hf hP hD hS (lv_sub hl [1, 2, 3] rfl)
noncomputable def j_BR_takeCopy_0 (N : Nat) (x1 : Int32) (x2 : Int32) (b_end : Int32) (b_start : Int32) (b_most : Int32) (b_dist : Int32) (b_place : Int32) (hsn : Int32) (hsf : Nat → Int32) (tn : Int32) (tf : Nat → Int32)  : Option (Int32 × Int32 × Int32 × (Nat → Int32)) :=
  (if 0 ≤ x1 then bd1 (f_Row_count tn) (fun r27 => (if (x1 + (4 : Int32)) ≤ (b_most - r27) then (loop3 (b_BR_takeCopy_44 (x1 + (4 : Int32)) b_start b_dist b_place hsn hsf ) N (0 : Int32) tn tf) else bd2 (f_BR_fault (3 : Int32) x2) (fun r37 b_place_37 => (some (r37, b_place_37, tn, tf) : Option (Int32 × Int32 × Int32 × (Nat → Int32)))))) else bd2 (f_BR_fault (1 : Int32) b_end) (fun r10 b_place_10 => (some (r10, b_place_10, tn, tf) : Option (Int32 × Int32 × Int32 × (Nat → Int32)))))
set_option maxHeartbeats 4000000 in
set_option maxRecDepth 100000 in
theorem k_BR_takeCopy_0 {r_z : Int32} {b_place_z : Int32} {tn_z : Int32} {tf_z : Nat → Int32} (C : Fx p s m args meth c cd_BR_takeCopy 6 R_BR lw_g (some .int)) (hK : va_K (dC, dI) vwCl [(cB, .byte), (cI, .int), (cJ, .long)] s) (hA : ∀ q, s.heap.size ≤ q → A q) (x1 : Int32) (x2 : Int32) (b_at : Int32) (b_end : Int32) (b_start : Int32) (b_most : Int32) (b_dist : Int32) (b_place : Int32) (hsn : Int32) (hsf : Nat → Int32) (tn : Int32) (tf : Nat → Int32)  (hf : j_BR_takeCopy_0 N x1 x2 b_end b_start b_most b_dist b_place hsn hsf tn tf  = some (r_z, b_place_z, tn_z, tf_z)) (hP : va_P (dC, dI) vwCl (wd_BR_takeCopy br hs hsa t ta g cB cI cJ b_at b_end b_start b_most b_dist b_place hsn hsf tn tf) H) (hD : va_D A (wd_BR_takeCopy br hs hsa t ta g cB cI cJ b_at b_end b_start b_most b_dist b_place hsn hsf tn tf)) (hS : va_S A s.heap H locs) (hl : lv_has ls 6 [(0, .ref br), (1, .int x1), (2, .int x2)]) : W p l e rm_BR_takeCopy s m args below meth c H locs 0 0 (MQ below (sQi (dC, dI) vwCl [(cB, .byte), (cI, .int), (cJ, .long)] A r_z (wd_BR_takeCopy br hs hsa t ta g cB cI cJ b_at b_end b_start b_most b_dist b_place_z hsn hsf tn_z tf_z)) args s 0 0 A) (F0 m 0 ls []) := by
  obtain ⟨hx, hb, hml, hown, hts, hr, hlocks, hZ⟩ := id C
  unfold j_BR_takeCopy_0 at hf
  refine lv_iload_n hx hb d_BR_takeCopy_0 rfl (lv_at hl 1 rfl) ?_
  refine lv_if_ge (tgt := 14) hx hb d_BR_takeCopy_1 (by decide) (fun c_1 => ?_) (fun c_1 => ?_)
  · have hf := br_pos c_1 hf
    refine lv_iload_n hx hb d_BR_takeCopy_14 rfl (lv_at hl 1 rfl) ?_
    refine lv_iconst (v := 4) hx hb d_BR_takeCopy_15 (by decide) ?_
    refine lv_iadd hx hb d_BR_takeCopy_16 ?_
    refine lv_istore_n (lv' := [(3, .int (x1 + (4 : Int32))), (0, .ref br), (1, .int x1), (2, .int x2)]) hx hb d_BR_takeCopy_17 rfl hl (by decide) rfl (fun ls hl => ?_)
    refine lv_iload_n hx hb d_BR_takeCopy_18 rfl (lv_at hl 0 rfl) ?_
    refine lv_aload_n hx hb d_BR_takeCopy_19 rfl (lv_at hl 1 rfl) ?_
    refine va_get (D := (dC, dI)) (ci := 5) (v := .int b_most) (C := R_BR) (T := T_BR) (N := 9) hx hb hts w_226 hown hK hP 0 rfl rfl 6 (by decide) (hts _ w_232) (fun _ h9 => h9) rfl d_BR_takeCopy_20 ?_
    refine lv_aload_n hx hb d_BR_takeCopy_23 rfl (lv_at hl 1 rfl) ?_
    refine va_get (D := (dC, dI)) (ci := 5) (v := .ref t) (C := R_BR) (T := T_BR) (N := 9) hx hb hts w_226 hown hK hP 0 rfl rfl 2 (by decide) (hts _ w_233) (fun _ h9 => h9) rfl d_BR_takeCopy_24 ?_
    obtain ⟨r27, hc27, hf⟩ := bd1_some hf
    refine s_Vi (As := []) (rest := [.int b_most, .int (x1 + (4 : Int32))]) (wr := [(br, .inr (5, [.ref g, .ref hs, .ref t, .int b_at, .int b_end, .int b_start, .int b_most, .int b_dist, .int b_place])), (hs, .inr (1, [.ref hsa, .int hsn])), (hsa, .inl (cB, 8000, .inl hsf)), (ta, .inl (cB, 8000, .inl tf))]) (ws' := wd_BR_takeCopy br hs hsa t ta g cB cI cJ b_at b_end b_start b_most b_dist b_place hsn hsf tn tf) C.call (c_Row_count l dC dI cB cI cJ t ta  tn  hc27) (cwV 0 hts (gd_V w_234 w_10 w_11 w_12 w_13) rfl rfl rfl ⟨rfl, hd_Row_count⟩ ⟨Nat.le_of_ble_eq_true rfl, Nat.le_of_ble_eq_true rfl⟩) rfl hl.1 rfl (Nat.le_of_ble_eq_true rfl) d_BR_takeCopy_27 ⟨Nat.le_of_ble_eq_true rfl, Nat.le_of_ble_eq_true rfl⟩ hZ hK hP hD hS hA 1 3 rfl rfl [3] [0, 1, 2, 4] [0, 1, 2, 4, 3] rfl rfl rfl rfl (by decide) rfl rfl (fun H locs hP hD hS => ?_)
    refine lv_isub hx hb d_BR_takeCopy_30 ?_
    refine lv_icmp_le (tgt := 41) hx hb d_BR_takeCopy_31 (by decide) (fun c_31 => ?_) (fun c_31 => ?_)
    · have hf := br_pos c_31 hf
      refine lv_iconst (v := 0) hx hb d_BR_takeCopy_41 (by decide) ?_
      refine lv_istore (lv' := [(4, .int (0 : Int32)), (3, .int (x1 + (4 : Int32))), (0, .ref br), (1, .int x1), (2, .int x2)]) hx hb d_BR_takeCopy_42 hl (by decide) rfl (fun ls hl => ?_)
      exact k_BR_takeCopy_44 C hK hA (x1 + (4 : Int32)) b_at b_end b_start b_most b_dist b_place hsn hsf  N (0 : Int32) tn tf hf _ _ hP hD hS _ (lv_sub hl [2, 1, 0] rfl)
    · have hf := br_neg c_31 hf
      refine lv_aload_n hx hb d_BR_takeCopy_34 rfl (lv_at hl 1 rfl) ?_
      refine lv_iconst (v := 3) hx hb d_BR_takeCopy_35 (by decide) ?_
      refine lv_iload_n hx hb d_BR_takeCopy_36 rfl (lv_at hl 3 rfl) ?_
      obtain ⟨r37, b_place_37, hc37, hf⟩ := bd2_some hf
      refine s_Vi (As := [.int (3 : Int32), .int x2]) (rest := []) (wr := [(hs, .inr (1, [.ref hsa, .int hsn])), (hsa, .inl (cB, 8000, .inl hsf)), (t, .inr (1, [.ref ta, .int tn])), (ta, .inl (cB, 8000, .inl tf))]) (ws' := wd_BR_takeCopy br hs hsa t ta g cB cI cJ b_at b_end b_start b_most b_dist b_place_37 hsn hsf tn tf) C.call (c_BR_fault l dC dI cB cI cJ br g hs t  b_at b_end b_start b_most b_dist b_place (3 : Int32) x2 hc37) (cwV 2 hts (gd_V w_239 w_240 w_241 w_242 w_243) rfl rfl rfl ⟨rfl, hd_BR_fault⟩ ⟨Nat.le_of_ble_eq_true rfl, Nat.le_of_ble_eq_true rfl⟩) rfl hl.1 rfl (Nat.le_of_ble_eq_true rfl) d_BR_takeCopy_37 ⟨Nat.le_of_ble_eq_true rfl, Nat.le_of_ble_eq_true rfl⟩ hZ hK hP hD hS hA 5 0 rfl rfl [0] [1, 2, 3, 4] [4, 0, 1, 2, 3] rfl rfl rfl rfl (by decide) rfl rfl (fun H locs hP hD hS => ?_)
      cases hf
      exact s_iret hx hb hr hlocks hP hK hD hS d_BR_takeCopy_40
  · have hf := br_neg c_1 hf
    refine lv_aload_n hx hb d_BR_takeCopy_4 rfl (lv_at hl 0 rfl) ?_
    refine lv_iconst (v := 1) hx hb d_BR_takeCopy_5 (by decide) ?_
    refine lv_aload_n hx hb d_BR_takeCopy_6 rfl (lv_at hl 0 rfl) ?_
    refine va_get (D := (dC, dI)) (ci := 5) (v := .int b_end) (C := R_BR) (T := T_BR) (N := 9) hx hb hts w_226 hown hK hP 0 rfl rfl 4 (by decide) (hts _ w_229) (fun _ h9 => h9) rfl d_BR_takeCopy_7 ?_
    obtain ⟨r10, b_place_10, hc10, hf⟩ := bd2_some hf
    refine s_Vi (As := [.int (1 : Int32), .int b_end]) (rest := []) (wr := [(hs, .inr (1, [.ref hsa, .int hsn])), (hsa, .inl (cB, 8000, .inl hsf)), (t, .inr (1, [.ref ta, .int tn])), (ta, .inl (cB, 8000, .inl tf))]) (ws' := wd_BR_takeCopy br hs hsa t ta g cB cI cJ b_at b_end b_start b_most b_dist b_place_10 hsn hsf tn tf) C.call (c_BR_fault l dC dI cB cI cJ br g hs t  b_at b_end b_start b_most b_dist b_place (1 : Int32) b_end hc10) (cwV 2 hts (gd_V w_239 w_240 w_241 w_242 w_243) rfl rfl rfl ⟨rfl, hd_BR_fault⟩ ⟨Nat.le_of_ble_eq_true rfl, Nat.le_of_ble_eq_true rfl⟩) rfl hl.1 rfl (Nat.le_of_ble_eq_true rfl) d_BR_takeCopy_10 ⟨Nat.le_of_ble_eq_true rfl, Nat.le_of_ble_eq_true rfl⟩ hZ hK hP hD hS hA 5 0 rfl rfl [0] [1, 2, 3, 4] [4, 0, 1, 2, 3] rfl rfl rfl rfl (by decide) rfl rfl (fun H locs hP hD hS => ?_)
    cases hf
    exact s_iret hx hb hr hlocks hP hK hD hS d_BR_takeCopy_13
end
noncomputable abbrev f_BR_takeCopy (N : Nat) (x1 : Int32) (x2 : Int32) (b_end : Int32) (b_start : Int32) (b_most : Int32) (b_dist : Int32) (b_place : Int32) (hsn : Int32) (hsf : Nat → Int32) (tn : Int32) (tf : Nat → Int32) : Option (Int32 × Int32 × Int32 × (Nat → Int32)) := j_BR_takeCopy_0 N x1 x2 b_end b_start b_most b_dist b_place hsn hsf tn tf
set_option maxRecDepth 100000 in
theorem c_BR_takeCopy {N : Nat} (l : Launch) (dC : Nat → ClassId) (dI : Nat → Nat → Nat) (cB cI cJ : ClassId) (br hs hsa t ta g : Nat) (b_at : Int32) (b_end : Int32) (b_start : Int32) (b_most : Int32) (b_dist : Int32) (b_place : Int32) (hsn : Int32) (hsf : Nat → Int32) (tn : Int32) (tf : Nat → Int32) (x1 : Int32) (x2 : Int32) {r_z : Int32} {b_place_z : Int32} {tn_z : Int32} {tf_z : Nat → Int32} (hf : f_BR_takeCopy N x1 x2 b_end b_start b_most b_dist b_place hsn hsf tn tf = some (r_z, b_place_z, tn_z, tf_z)) : MetI l y_BR_takeCopy ws_BR_takeCopy rm_BR_takeCopy (dC, dI) vwCl [(cB, .byte), (cI, .int), (cJ, .long)] [.ref br, .int x1, .int x2] (wd_BR_takeCopy br hs hsa t ta g cB cI cJ b_at b_end b_start b_most b_dist b_place hsn hsf tn tf) r_z (wd_BR_takeCopy br hs hsa t ta g cB cI cJ b_at b_end b_start b_most b_dist b_place_z hsn hsf tn_z tf_z) 0 0 :=
  s_ofi (bytes := cd_BR_takeCopy) (maxL := 6) (ret := (some .int)) (by decide) rfl (Nat.le_of_ble_eq_true rfl) (fun p e s m below meth c A ls C hK hA hP hD hS hl => k_BR_takeCopy_0 C hK hA x1 x2 b_at b_end b_start b_most b_dist b_place hsn hsf tn tf hf hP hD hS (lv_sub hl [0, 1, 2] rfl))

abbrev wd_BR_takeDistance (br g ga hs t hsa ta : Nat) (cB cI cJ : ClassId) (b_at : Int32) (b_end : Int32) (b_start : Int32) (b_most : Int32) (b_dist : Int32) (b_place : Int32) (gn : Int32) (gf : Nat → Int32) (hsn : Int32) (tn : Int32) : va_W := [(br, .inr (5, [.ref g, .ref hs, .ref t, .int b_at, .int b_end, .int b_start, .int b_most, .int b_dist, .int b_place])), (g, .inr (1, [.ref ga, .int gn])), (ga, .inl (cB, 8000, .inl gf)), (hs, .inr (1, [.ref hsa, .int hsn])), (t, .inr (1, [.ref ta, .int tn]))]
abbrev rm_BR_takeDistance : Room := { frames := 1, cells := 0, slots := 0, locals := 22 }
section
variable {p : Program} {l : Launch} {e : Env} {s : State} {m : MethodId} {args : Array Value} {below : List Frame} {meth : Method} {c : Code} {dC : Nat → ClassId} {dI : Nat → Nat → Nat} {A : Nat → Prop} {cB cI cJ : ClassId} {H : Heap} {locs : List Loc} {ls : Array Slot} {N : Nat} {br g ga hs t hsa ta : Nat}
noncomputable def j_BR_takeDistance_72 (b_at : Int32) (b_dist : Int32)  : Option (Int32 × Int32 × Int32 × Int32) :=
  bd2 (f_BR_fault (2 : Int32) b_at) (fun r78 b_place_78 => (some (r78, b_at, b_dist, b_place_78) : Option (Int32 × Int32 × Int32 × Int32)))
set_option maxHeartbeats 4000000 in
set_option maxRecDepth 100000 in
theorem k_BR_takeDistance_72 {r_z : Int32} {b_at_z : Int32} {b_dist_z : Int32} {b_place_z : Int32} (C : Fx p s m args meth c cd_BR_takeDistance 1 R_BR lw_g (some .int)) (hK : va_K (dC, dI) vwCl [(cB, .byte), (cI, .int), (cJ, .long)] s) (hA : ∀ q, s.heap.size ≤ q → A q) (b_at : Int32) (b_end : Int32) (b_start : Int32) (b_most : Int32) (b_dist : Int32) (b_place : Int32) (gn : Int32) (gf : Nat → Int32) (hsn : Int32) (tn : Int32)  (hf : j_BR_takeDistance_72 b_at b_dist  = some (r_z, b_at_z, b_dist_z, b_place_z)) (hP : va_P (dC, dI) vwCl (wd_BR_takeDistance br g ga hs t hsa ta cB cI cJ b_at b_end b_start b_most b_dist b_place gn gf hsn tn) H) (hD : va_D A (wd_BR_takeDistance br g ga hs t hsa ta cB cI cJ b_at b_end b_start b_most b_dist b_place gn gf hsn tn)) (hS : va_S A s.heap H locs) (hl : lv_has ls 1 [(0, .ref br)]) : W p l e rm_BR_takeDistance s m args below meth c H locs 0 0 (MQ below (sQi (dC, dI) vwCl [(cB, .byte), (cI, .int), (cJ, .long)] A r_z (wd_BR_takeDistance br g ga hs t hsa ta cB cI cJ b_at_z b_end b_start b_most b_dist_z b_place_z gn gf hsn tn)) args s 0 0 A) (F0 m 72 ls []) := by
  obtain ⟨hx, hb, hml, hown, hts, hr, hlocks, hZ⟩ := id C
  unfold j_BR_takeDistance_72 at hf
  refine lv_aload_n hx hb d_BR_takeDistance_72 rfl (lv_at hl 0 rfl) ?_
  refine lv_iconst (v := 2) hx hb d_BR_takeDistance_73 (by decide) ?_
  refine lv_aload_n hx hb d_BR_takeDistance_74 rfl (lv_at hl 0 rfl) ?_
  refine va_get (D := (dC, dI)) (ci := 5) (v := .int b_at) (C := R_BR) (T := T_BR) (N := 9) hx hb hts w_226 hown hK hP 0 rfl rfl 3 (by decide) (hts _ w_228) (fun _ h9 => h9) rfl d_BR_takeDistance_75 ?_
  obtain ⟨r78, b_place_78, hc78, hf⟩ := bd2_some hf
  refine s_Vi (As := [.int (2 : Int32), .int b_at]) (rest := []) (wr := [(g, .inr (1, [.ref ga, .int gn])), (ga, .inl (cB, 8000, .inl gf)), (hs, .inr (1, [.ref hsa, .int hsn])), (t, .inr (1, [.ref ta, .int tn]))]) (ws' := wd_BR_takeDistance br g ga hs t hsa ta cB cI cJ b_at b_end b_start b_most b_dist b_place_78 gn gf hsn tn) C.call (c_BR_fault l dC dI cB cI cJ br g hs t  b_at b_end b_start b_most b_dist b_place (2 : Int32) b_at hc78) (cwV 2 hts (gd_V w_239 w_240 w_241 w_242 w_243) rfl rfl rfl ⟨rfl, hd_BR_fault⟩ ⟨Nat.le_of_ble_eq_true rfl, Nat.le_of_ble_eq_true rfl⟩) rfl hl.1 rfl (Nat.le_of_ble_eq_true rfl) d_BR_takeDistance_78 ⟨Nat.le_of_ble_eq_true rfl, Nat.le_of_ble_eq_true rfl⟩ hZ hK hP hD hS hA 5 0 rfl rfl [0] [1, 2, 3, 4] [4, 0, 1, 2, 3] rfl rfl rfl rfl (by decide) rfl rfl (fun H locs hP hD hS => ?_)
  cases hf
  exact s_iret hx hb hr hlocks hP hK hD hS d_BR_takeDistance_81
noncomputable def j_BR_takeDistance_0 (b_at : Int32) (b_end : Int32) (b_start : Int32) (b_dist : Int32) (b_place : Int32) (gn : Int32) (gf : Nat → Int32) (hsn : Int32) (tn : Int32)  : Option (Int32 × Int32 × Int32 × Int32) :=
  (if (2 : Int32) ≤ (b_end - b_at) then bd1 (f_Row_pair 8000 b_at gn gf) (fun r32 => (if r32 = 0 then (j_BR_takeDistance_72 b_at r32 ) else bd1 (f_Row_count hsn) (fun r53 => bd1 (f_Row_count tn) (fun r60 => (if r32 ≤ ((r53 + r60) - b_start) then (some ((0 : Int32), (b_at + (2 : Int32)), r32, b_place) : Option (Int32 × Int32 × Int32 × Int32)) else (j_BR_takeDistance_72 b_at r32 )))))) else bd2 (f_BR_fault (1 : Int32) b_end) (fun r19 b_place_19 => (some (r19, b_at, b_dist, b_place_19) : Option (Int32 × Int32 × Int32 × Int32))))
set_option maxHeartbeats 4000000 in
set_option maxRecDepth 100000 in
theorem k_BR_takeDistance_0 {r_z : Int32} {b_at_z : Int32} {b_dist_z : Int32} {b_place_z : Int32} (C : Fx p s m args meth c cd_BR_takeDistance 1 R_BR lw_g (some .int)) (hK : va_K (dC, dI) vwCl [(cB, .byte), (cI, .int), (cJ, .long)] s) (hA : ∀ q, s.heap.size ≤ q → A q) (b_at : Int32) (b_end : Int32) (b_start : Int32) (b_most : Int32) (b_dist : Int32) (b_place : Int32) (gn : Int32) (gf : Nat → Int32) (hsn : Int32) (tn : Int32)  (hf : j_BR_takeDistance_0 b_at b_end b_start b_dist b_place gn gf hsn tn  = some (r_z, b_at_z, b_dist_z, b_place_z)) (hP : va_P (dC, dI) vwCl (wd_BR_takeDistance br g ga hs t hsa ta cB cI cJ b_at b_end b_start b_most b_dist b_place gn gf hsn tn) H) (hD : va_D A (wd_BR_takeDistance br g ga hs t hsa ta cB cI cJ b_at b_end b_start b_most b_dist b_place gn gf hsn tn)) (hS : va_S A s.heap H locs) (hl : lv_has ls 1 [(0, .ref br)]) : W p l e rm_BR_takeDistance s m args below meth c H locs 0 0 (MQ below (sQi (dC, dI) vwCl [(cB, .byte), (cI, .int), (cJ, .long)] A r_z (wd_BR_takeDistance br g ga hs t hsa ta cB cI cJ b_at_z b_end b_start b_most b_dist_z b_place_z gn gf hsn tn)) args s 0 0 A) (F0 m 0 ls []) := by
  obtain ⟨hx, hb, hml, hown, hts, hr, hlocks, hZ⟩ := id C
  unfold j_BR_takeDistance_0 at hf
  refine lv_aload_n hx hb d_BR_takeDistance_0 rfl (lv_at hl 0 rfl) ?_
  refine va_get (D := (dC, dI)) (ci := 5) (v := .int b_end) (C := R_BR) (T := T_BR) (N := 9) hx hb hts w_226 hown hK hP 0 rfl rfl 4 (by decide) (hts _ w_229) (fun _ h9 => h9) rfl d_BR_takeDistance_1 ?_
  refine lv_aload_n hx hb d_BR_takeDistance_4 rfl (lv_at hl 0 rfl) ?_
  refine va_get (D := (dC, dI)) (ci := 5) (v := .int b_at) (C := R_BR) (T := T_BR) (N := 9) hx hb hts w_226 hown hK hP 0 rfl rfl 3 (by decide) (hts _ w_228) (fun _ h9 => h9) rfl d_BR_takeDistance_5 ?_
  refine lv_isub hx hb d_BR_takeDistance_8 ?_
  refine lv_iconst (v := 2) hx hb d_BR_takeDistance_9 (by decide) ?_
  refine lv_icmp_ge (tgt := 23) hx hb d_BR_takeDistance_10 (by decide) (fun c_10 => ?_) (fun c_10 => ?_)
  · have hf := br_pos c_10 hf
    refine lv_aload_n hx hb d_BR_takeDistance_23 rfl (lv_at hl 0 rfl) ?_
    refine lv_aload_n hx hb d_BR_takeDistance_24 rfl (lv_at hl 0 rfl) ?_
    refine va_get (D := (dC, dI)) (ci := 5) (v := .ref g) (C := R_BR) (T := T_BR) (N := 9) hx hb hts w_226 hown hK hP 0 rfl rfl 0 (by decide) (hts _ w_230) (fun _ h9 => h9) rfl d_BR_takeDistance_25 ?_
    refine lv_aload_n hx hb d_BR_takeDistance_28 rfl (lv_at hl 0 rfl) ?_
    refine va_get (D := (dC, dI)) (ci := 5) (v := .int b_at) (C := R_BR) (T := T_BR) (N := 9) hx hb hts w_226 hown hK hP 0 rfl rfl 3 (by decide) (hts _ w_228) (fun _ h9 => h9) rfl d_BR_takeDistance_29 ?_
    obtain ⟨r32, hc32, hf⟩ := bd1_some hf
    refine s_Vi (As := [.int b_at]) (rest := [.ref br]) (wr := [(br, .inr (5, [.ref g, .ref hs, .ref t, .int b_at, .int b_end, .int b_start, .int b_most, .int b_dist, .int b_place])), (hs, .inr (1, [.ref hsa, .int hsn])), (t, .inr (1, [.ref ta, .int tn]))]) (ws' := wd_BR_takeDistance br g ga hs t hsa ta cB cI cJ b_at b_end b_start b_most b_dist b_place gn gf hsn tn) C.call (c_Row_pair l dC dI cB cI cJ g ga 8000 gn gf b_at hc32) (cwV 1 hts (gd_V w_244 w_245 w_246 w_12 w_247) rfl rfl rfl ⟨rfl, hd_Row_pair⟩ ⟨Nat.le_of_ble_eq_true rfl, Nat.le_of_ble_eq_true rfl⟩) rfl hl.1 rfl (Nat.le_of_ble_eq_true rfl) d_BR_takeDistance_32 ⟨Nat.le_of_ble_eq_true rfl, Nat.le_of_ble_eq_true rfl⟩ hZ hK hP hD hS hA 1 1 rfl rfl [1, 2] [0, 3, 4] [0, 3, 4, 1, 2] rfl rfl rfl rfl (by decide) rfl rfl (fun H locs hP hD hS => ?_)
    refine va_put (D := (dC, dI)) (ci := 5) (v := .int r32) (ty := .int) (C := R_BR) (T := T_BR) (N := 9) hx hb hts w_226 ty_BR ty_BR_ok nm_BR hown hK hP hD hS 0 rfl rfl 7 (by decide) (hts _ w_235) (fun _ h9 => h9) rfl (by decide +kernel) rfl rfl (Nat.le_of_ble_eq_true rfl) d_BR_takeDistance_35 (fun H locs hP hD hS => ?_)
    have hP : va_P (dC, dI) vwCl (wd_BR_takeDistance br g ga hs t hsa ta cB cI cJ b_at b_end b_start b_most r32 b_place gn gf hsn tn) H := hP
    have hD : va_D A (wd_BR_takeDistance br g ga hs t hsa ta cB cI cJ b_at b_end b_start b_most r32 b_place gn gf hsn tn) := hD
    refine lv_aload_n hx hb d_BR_takeDistance_38 rfl (lv_at hl 0 rfl) ?_
    refine va_get (D := (dC, dI)) (ci := 5) (v := .int r32) (C := R_BR) (T := T_BR) (N := 9) hx hb hts w_226 hown hK hP 0 rfl rfl 7 (by decide) (hts _ w_235) (fun _ h9 => h9) rfl d_BR_takeDistance_39 ?_
    refine lv_if_eq (tgt := 72) hx hb d_BR_takeDistance_42 (by decide) (fun c_42 => ?_) (fun c_42 => ?_)
    · have hf := br_pos c_42 hf
      exact k_BR_takeDistance_72 C hK hA b_at b_end b_start b_most r32 b_place gn gf hsn tn  hf hP hD hS (lv_sub hl [0] rfl)
    · have hf := br_neg c_42 hf
      refine lv_aload_n hx hb d_BR_takeDistance_45 rfl (lv_at hl 0 rfl) ?_
      refine va_get (D := (dC, dI)) (ci := 5) (v := .int r32) (C := R_BR) (T := T_BR) (N := 9) hx hb hts w_226 hown hK hP 0 rfl rfl 7 (by decide) (hts _ w_235) (fun _ h9 => h9) rfl d_BR_takeDistance_46 ?_
      refine lv_aload_n hx hb d_BR_takeDistance_49 rfl (lv_at hl 0 rfl) ?_
      refine va_get (D := (dC, dI)) (ci := 5) (v := .ref hs) (C := R_BR) (T := T_BR) (N := 9) hx hb hts w_226 hown hK hP 0 rfl rfl 1 (by decide) (hts _ w_237) (fun _ h9 => h9) rfl d_BR_takeDistance_50 ?_
      obtain ⟨r53, hc53, hf⟩ := bd1_some hf
      refine s_Vi (As := []) (rest := [.int r32]) (wr := [(br, .inr (5, [.ref g, .ref hs, .ref t, .int b_at, .int b_end, .int b_start, .int b_most, .int r32, .int b_place])), (g, .inr (1, [.ref ga, .int gn])), (ga, .inl (cB, 8000, .inl gf)), (t, .inr (1, [.ref ta, .int tn]))]) (ws' := wd_BR_takeDistance br g ga hs t hsa ta cB cI cJ b_at b_end b_start b_most r32 b_place gn gf hsn tn) C.call (c_Row_count l dC dI cB cI cJ hs hsa  hsn  hc53) (cwV 0 hts (gd_V w_234 w_10 w_11 w_12 w_13) rfl rfl rfl ⟨rfl, hd_Row_count⟩ ⟨Nat.le_of_ble_eq_true rfl, Nat.le_of_ble_eq_true rfl⟩) rfl hl.1 rfl (Nat.le_of_ble_eq_true rfl) d_BR_takeDistance_53 ⟨Nat.le_of_ble_eq_true rfl, Nat.le_of_ble_eq_true rfl⟩ hZ hK hP hD hS hA 1 3 rfl rfl [3] [0, 1, 2, 4] [0, 1, 2, 4, 3] rfl rfl rfl rfl (by decide) rfl rfl (fun H locs hP hD hS => ?_)
      refine lv_aload_n hx hb d_BR_takeDistance_56 rfl (lv_at hl 0 rfl) ?_
      refine va_get (D := (dC, dI)) (ci := 5) (v := .ref t) (C := R_BR) (T := T_BR) (N := 9) hx hb hts w_226 hown hK hP 0 rfl rfl 2 (by decide) (hts _ w_233) (fun _ h9 => h9) rfl d_BR_takeDistance_57 ?_
      obtain ⟨r60, hc60, hf⟩ := bd1_some hf
      refine s_Vi (As := []) (rest := [.int r53, .int r32]) (wr := [(br, .inr (5, [.ref g, .ref hs, .ref t, .int b_at, .int b_end, .int b_start, .int b_most, .int r32, .int b_place])), (g, .inr (1, [.ref ga, .int gn])), (ga, .inl (cB, 8000, .inl gf)), (hs, .inr (1, [.ref hsa, .int hsn]))]) (ws' := wd_BR_takeDistance br g ga hs t hsa ta cB cI cJ b_at b_end b_start b_most r32 b_place gn gf hsn tn) C.call (c_Row_count l dC dI cB cI cJ t ta  tn  hc60) (cwV 0 hts (gd_V w_234 w_10 w_11 w_12 w_13) rfl rfl rfl ⟨rfl, hd_Row_count⟩ ⟨Nat.le_of_ble_eq_true rfl, Nat.le_of_ble_eq_true rfl⟩) rfl hl.1 rfl (Nat.le_of_ble_eq_true rfl) d_BR_takeDistance_60 ⟨Nat.le_of_ble_eq_true rfl, Nat.le_of_ble_eq_true rfl⟩ hZ hK hP hD hS hA 1 4 rfl rfl [4] [0, 1, 2, 3] [0, 1, 2, 3, 4] rfl rfl rfl rfl (by decide) rfl rfl (fun H locs hP hD hS => ?_)
      refine lv_iadd hx hb d_BR_takeDistance_63 ?_
      refine lv_aload_n hx hb d_BR_takeDistance_64 rfl (lv_at hl 0 rfl) ?_
      refine va_get (D := (dC, dI)) (ci := 5) (v := .int b_start) (C := R_BR) (T := T_BR) (N := 9) hx hb hts w_226 hown hK hP 0 rfl rfl 5 (by decide) (hts _ w_236) (fun _ h9 => h9) rfl d_BR_takeDistance_65 ?_
      refine lv_isub hx hb d_BR_takeDistance_68 ?_
      refine lv_icmp_le (tgt := 82) hx hb d_BR_takeDistance_69 (by decide) (fun c_69 => ?_) (fun c_69 => ?_)
      · have hf := br_pos c_69 hf
        refine lv_aload_n hx hb d_BR_takeDistance_82 rfl (lv_at hl 0 rfl) ?_
        refine lv_dup hx hb d_BR_takeDistance_83 rfl ?_
        refine va_get (D := (dC, dI)) (ci := 5) (v := .int b_at) (C := R_BR) (T := T_BR) (N := 9) hx hb hts w_226 hown hK hP 0 rfl rfl 3 (by decide) (hts _ w_228) (fun _ h9 => h9) rfl d_BR_takeDistance_84 ?_
        refine lv_iconst (v := 2) hx hb d_BR_takeDistance_87 (by decide) ?_
        refine lv_iadd hx hb d_BR_takeDistance_88 ?_
        refine va_put (D := (dC, dI)) (ci := 5) (v := .int (b_at + (2 : Int32))) (ty := .int) (C := R_BR) (T := T_BR) (N := 9) hx hb hts w_226 ty_BR ty_BR_ok nm_BR hown hK hP hD hS 0 rfl rfl 3 (by decide) (hts _ w_228) (fun _ h9 => h9) rfl (by decide +kernel) rfl rfl (Nat.le_of_ble_eq_true rfl) d_BR_takeDistance_89 (fun H locs hP hD hS => ?_)
        have hP : va_P (dC, dI) vwCl (wd_BR_takeDistance br g ga hs t hsa ta cB cI cJ (b_at + (2 : Int32)) b_end b_start b_most r32 b_place gn gf hsn tn) H := hP
        have hD : va_D A (wd_BR_takeDistance br g ga hs t hsa ta cB cI cJ (b_at + (2 : Int32)) b_end b_start b_most r32 b_place gn gf hsn tn) := hD
        refine lv_iconst (v := 0) hx hb d_BR_takeDistance_92 (by decide) ?_
        cases hf
        exact s_iret hx hb hr hlocks hP hK hD hS d_BR_takeDistance_93
      · have hf := br_neg c_69 hf
        exact k_BR_takeDistance_72 C hK hA b_at b_end b_start b_most r32 b_place gn gf hsn tn  hf hP hD hS (lv_sub hl [0] rfl)
  · have hf := br_neg c_10 hf
    refine lv_aload_n hx hb d_BR_takeDistance_13 rfl (lv_at hl 0 rfl) ?_
    refine lv_iconst (v := 1) hx hb d_BR_takeDistance_14 (by decide) ?_
    refine lv_aload_n hx hb d_BR_takeDistance_15 rfl (lv_at hl 0 rfl) ?_
    refine va_get (D := (dC, dI)) (ci := 5) (v := .int b_end) (C := R_BR) (T := T_BR) (N := 9) hx hb hts w_226 hown hK hP 0 rfl rfl 4 (by decide) (hts _ w_229) (fun _ h9 => h9) rfl d_BR_takeDistance_16 ?_
    obtain ⟨r19, b_place_19, hc19, hf⟩ := bd2_some hf
    refine s_Vi (As := [.int (1 : Int32), .int b_end]) (rest := []) (wr := [(g, .inr (1, [.ref ga, .int gn])), (ga, .inl (cB, 8000, .inl gf)), (hs, .inr (1, [.ref hsa, .int hsn])), (t, .inr (1, [.ref ta, .int tn]))]) (ws' := wd_BR_takeDistance br g ga hs t hsa ta cB cI cJ b_at b_end b_start b_most b_dist b_place_19 gn gf hsn tn) C.call (c_BR_fault l dC dI cB cI cJ br g hs t  b_at b_end b_start b_most b_dist b_place (1 : Int32) b_end hc19) (cwV 2 hts (gd_V w_239 w_240 w_241 w_242 w_243) rfl rfl rfl ⟨rfl, hd_BR_fault⟩ ⟨Nat.le_of_ble_eq_true rfl, Nat.le_of_ble_eq_true rfl⟩) rfl hl.1 rfl (Nat.le_of_ble_eq_true rfl) d_BR_takeDistance_19 ⟨Nat.le_of_ble_eq_true rfl, Nat.le_of_ble_eq_true rfl⟩ hZ hK hP hD hS hA 5 0 rfl rfl [0] [1, 2, 3, 4] [4, 0, 1, 2, 3] rfl rfl rfl rfl (by decide) rfl rfl (fun H locs hP hD hS => ?_)
    cases hf
    exact s_iret hx hb hr hlocks hP hK hD hS d_BR_takeDistance_22
end
noncomputable abbrev f_BR_takeDistance (b_at : Int32) (b_end : Int32) (b_start : Int32) (b_dist : Int32) (b_place : Int32) (gn : Int32) (gf : Nat → Int32) (hsn : Int32) (tn : Int32) : Option (Int32 × Int32 × Int32 × Int32) := j_BR_takeDistance_0 b_at b_end b_start b_dist b_place gn gf hsn tn
set_option maxRecDepth 100000 in
theorem c_BR_takeDistance (l : Launch) (dC : Nat → ClassId) (dI : Nat → Nat → Nat) (cB cI cJ : ClassId) (br g ga hs t hsa ta : Nat) (b_at : Int32) (b_end : Int32) (b_start : Int32) (b_most : Int32) (b_dist : Int32) (b_place : Int32) (gn : Int32) (gf : Nat → Int32) (hsn : Int32) (tn : Int32)  {r_z : Int32} {b_at_z : Int32} {b_dist_z : Int32} {b_place_z : Int32} (hf : f_BR_takeDistance b_at b_end b_start b_dist b_place gn gf hsn tn = some (r_z, b_at_z, b_dist_z, b_place_z)) : MetI l y_BR_takeDistance ws_BR_takeDistance rm_BR_takeDistance (dC, dI) vwCl [(cB, .byte), (cI, .int), (cJ, .long)] [.ref br] (wd_BR_takeDistance br g ga hs t hsa ta cB cI cJ b_at b_end b_start b_most b_dist b_place gn gf hsn tn) r_z (wd_BR_takeDistance br g ga hs t hsa ta cB cI cJ b_at_z b_end b_start b_most b_dist_z b_place_z gn gf hsn tn) 0 0 :=
  s_ofi (bytes := cd_BR_takeDistance) (maxL := 1) (ret := (some .int)) (by decide) rfl (Nat.le_of_ble_eq_true rfl) (fun p e s m below meth c A ls C hK hA hP hD hS hl => k_BR_takeDistance_0 C hK hA b_at b_end b_start b_most b_dist b_place gn gf hsn tn hf hP hD hS (lv_sub hl [0] rfl))

abbrev wd_BR_takeLiterals (br g ga t ta hs : Nat) (cB cI cJ : ClassId) (b_at : Int32) (b_end : Int32) (b_start : Int32) (b_most : Int32) (b_dist : Int32) (b_place : Int32) (gn : Int32) (gf : Nat → Int32) (tn : Int32) (tf : Nat → Int32) : va_W := [(br, .inr (5, [.ref g, .ref hs, .ref t, .int b_at, .int b_end, .int b_start, .int b_most, .int b_dist, .int b_place])), (g, .inr (1, [.ref ga, .int gn])), (ga, .inl (cB, 8000, .inl gf)), (t, .inr (1, [.ref ta, .int tn])), (ta, .inl (cB, 8000, .inl tf))]
abbrev rm_BR_takeLiterals : Room := { frames := 2, cells := 0, slots := 0, locals := 42 }
section
variable {p : Program} {l : Launch} {e : Env} {s : State} {m : MethodId} {args : Array Value} {below : List Frame} {meth : Method} {c : Code} {dC : Nat → ClassId} {dI : Nat → Nat → Nat} {A : Nat → Prop} {cB cI cJ : ClassId} {H : Heap} {locs : List Loc} {ls : Array Slot} {N : Nat} {br g ga t ta hs : Nat}
noncomputable def j_BR_takeLiterals_0 (x1 : Int32) (b_at : Int32) (b_end : Int32) (b_most : Int32) (b_place : Int32) (gn : Int32) (gf : Nat → Int32) (tn : Int32) (tf : Nat → Int32)  : Option (Int32 × Int32 × Int32 × Int32 × (Nat → Int32)) :=
  (if 0 ≤ x1 then bd1 (f_Row_count tn) (fun r32 => bd3 (f_Row_addFrom 8000 8000 b_at (b_at + (mn x1 (mn (b_end - b_at) (b_most - r32)))) tn tf gn gf) (fun r61 tn_61 tf_61 => (if (mn x1 (mn (b_end - b_at) (b_most - r32))) = x1 then (some ((0 : Int32), (b_at + (mn x1 (mn (b_end - b_at) (b_most - r32)))), b_place, tn_61, tf_61) : Option (Int32 × Int32 × Int32 × Int32 × (Nat → Int32))) else (if (b_at + (mn x1 (mn (b_end - b_at) (b_most - r32)))) < b_end then bd2 (f_BR_fault (3 : Int32) (b_at + (mn x1 (mn (b_end - b_at) (b_most - r32))))) (fun r111 b_place_111 => (some (r111, (b_at + (mn x1 (mn (b_end - b_at) (b_most - r32)))), b_place_111, tn_61, tf_61) : Option (Int32 × Int32 × Int32 × Int32 × (Nat → Int32)))) else bd2 (f_BR_fault (1 : Int32) b_end) (fun r99 b_place_99 => (some (r99, (b_at + (mn x1 (mn (b_end - b_at) (b_most - r32)))), b_place_99, tn_61, tf_61) : Option (Int32 × Int32 × Int32 × Int32 × (Nat → Int32)))))))) else bd2 (f_BR_fault (1 : Int32) b_end) (fun r10 b_place_10 => (some (r10, b_at, b_place_10, tn, tf) : Option (Int32 × Int32 × Int32 × Int32 × (Nat → Int32)))))
set_option maxHeartbeats 4000000 in
set_option maxRecDepth 100000 in
theorem k_BR_takeLiterals_0 {r_z : Int32} {b_at_z : Int32} {b_place_z : Int32} {tn_z : Int32} {tf_z : Nat → Int32} (C : Fx p s m args meth c cd_BR_takeLiterals 3 R_BR lw_g (some .int)) (hK : va_K (dC, dI) vwCl [(cB, .byte), (cI, .int), (cJ, .long)] s) (hA : ∀ q, s.heap.size ≤ q → A q) (x1 : Int32) (b_at : Int32) (b_end : Int32) (b_start : Int32) (b_most : Int32) (b_dist : Int32) (b_place : Int32) (gn : Int32) (gf : Nat → Int32) (tn : Int32) (tf : Nat → Int32)  (hf : j_BR_takeLiterals_0 x1 b_at b_end b_most b_place gn gf tn tf  = some (r_z, b_at_z, b_place_z, tn_z, tf_z)) (hP : va_P (dC, dI) vwCl (wd_BR_takeLiterals br g ga t ta hs cB cI cJ b_at b_end b_start b_most b_dist b_place gn gf tn tf) H) (hD : va_D A (wd_BR_takeLiterals br g ga t ta hs cB cI cJ b_at b_end b_start b_most b_dist b_place gn gf tn tf)) (hS : va_S A s.heap H locs) (hl : lv_has ls 3 [(0, .ref br), (1, .int x1)]) : W p l e rm_BR_takeLiterals s m args below meth c H locs 0 0 (MQ below (sQi (dC, dI) vwCl [(cB, .byte), (cI, .int), (cJ, .long)] A r_z (wd_BR_takeLiterals br g ga t ta hs cB cI cJ b_at_z b_end b_start b_most b_dist b_place_z gn gf tn_z tf_z)) args s 0 0 A) (F0 m 0 ls []) := by
  obtain ⟨hx, hb, hml, hown, hts, hr, hlocks, hZ⟩ := id C
  unfold j_BR_takeLiterals_0 at hf
  refine lv_iload_n hx hb d_BR_takeLiterals_0 rfl (lv_at hl 1 rfl) ?_
  refine lv_if_ge (tgt := 14) hx hb d_BR_takeLiterals_1 (by decide) (fun c_1 => ?_) (fun c_1 => ?_)
  · have hf := br_pos c_1 hf
    refine lv_iload_n hx hb d_BR_takeLiterals_14 rfl (lv_at hl 1 rfl) ?_
    refine lv_aload_n hx hb d_BR_takeLiterals_15 rfl (lv_at hl 0 rfl) ?_
    refine va_get (D := (dC, dI)) (ci := 5) (v := .int b_end) (C := R_BR) (T := T_BR) (N := 9) hx hb hts w_226 hown hK hP 0 rfl rfl 4 (by decide) (hts _ w_229) (fun _ h9 => h9) rfl d_BR_takeLiterals_16 ?_
    refine lv_aload_n hx hb d_BR_takeLiterals_19 rfl (lv_at hl 0 rfl) ?_
    refine va_get (D := (dC, dI)) (ci := 5) (v := .int b_at) (C := R_BR) (T := T_BR) (N := 9) hx hb hts w_226 hown hK hP 0 rfl rfl 3 (by decide) (hts _ w_228) (fun _ h9 => h9) rfl d_BR_takeLiterals_20 ?_
    refine lv_isub hx hb d_BR_takeLiterals_23 ?_
    refine lv_aload_n hx hb d_BR_takeLiterals_24 rfl (lv_at hl 0 rfl) ?_
    refine va_get (D := (dC, dI)) (ci := 5) (v := .int b_most) (C := R_BR) (T := T_BR) (N := 9) hx hb hts w_226 hown hK hP 0 rfl rfl 6 (by decide) (hts _ w_232) (fun _ h9 => h9) rfl d_BR_takeLiterals_25 ?_
    refine lv_aload_n hx hb d_BR_takeLiterals_28 rfl (lv_at hl 0 rfl) ?_
    refine va_get (D := (dC, dI)) (ci := 5) (v := .ref t) (C := R_BR) (T := T_BR) (N := 9) hx hb hts w_226 hown hK hP 0 rfl rfl 2 (by decide) (hts _ w_233) (fun _ h9 => h9) rfl d_BR_takeLiterals_29 ?_
    obtain ⟨r32, hc32, hf⟩ := bd1_some hf
    refine s_Vi (As := []) (rest := [.int b_most, .int (b_end - b_at), .int x1]) (wr := [(br, .inr (5, [.ref g, .ref hs, .ref t, .int b_at, .int b_end, .int b_start, .int b_most, .int b_dist, .int b_place])), (g, .inr (1, [.ref ga, .int gn])), (ga, .inl (cB, 8000, .inl gf)), (ta, .inl (cB, 8000, .inl tf))]) (ws' := wd_BR_takeLiterals br g ga t ta hs cB cI cJ b_at b_end b_start b_most b_dist b_place gn gf tn tf) C.call (c_Row_count l dC dI cB cI cJ t ta  tn  hc32) (cwV 0 hts (gd_V w_234 w_10 w_11 w_12 w_13) rfl rfl rfl ⟨rfl, hd_Row_count⟩ ⟨Nat.le_of_ble_eq_true rfl, Nat.le_of_ble_eq_true rfl⟩) rfl hl.1 rfl (Nat.le_of_ble_eq_true rfl) d_BR_takeLiterals_32 ⟨Nat.le_of_ble_eq_true rfl, Nat.le_of_ble_eq_true rfl⟩ hZ hK hP hD hS hA 1 3 rfl rfl [3] [0, 1, 2, 4] [0, 1, 2, 4, 3] rfl rfl rfl rfl (by decide) rfl rfl (fun H locs hP hD hS => ?_)
    refine lv_isub hx hb d_BR_takeLiterals_35 ?_
    refine s_mmin hx hb (hml.trans hl.1.symm) hown (hts _ w_248) (hts _ w_23) (hts _ w_24) (hts _ w_25) (Nat.le_of_ble_eq_true rfl) (Nat.le_of_ble_eq_true rfl) (Nat.zero_le _) (Nat.zero_le _) d_BR_takeLiterals_36 ?_
    refine s_mmin hx hb (hml.trans hl.1.symm) hown (hts _ w_248) (hts _ w_23) (hts _ w_24) (hts _ w_25) (Nat.le_of_ble_eq_true rfl) (Nat.le_of_ble_eq_true rfl) (Nat.zero_le _) (Nat.zero_le _) d_BR_takeLiterals_39 ?_
    refine lv_istore_n (lv' := [(2, .int (mn x1 (mn (b_end - b_at) (b_most - r32)))), (0, .ref br), (1, .int x1)]) hx hb d_BR_takeLiterals_42 rfl hl (by decide) rfl (fun ls hl => ?_)
    refine lv_aload_n hx hb d_BR_takeLiterals_43 rfl (lv_at hl 1 rfl) ?_
    refine va_get (D := (dC, dI)) (ci := 5) (v := .ref t) (C := R_BR) (T := T_BR) (N := 9) hx hb hts w_226 hown hK hP 0 rfl rfl 2 (by decide) (hts _ w_233) (fun _ h9 => h9) rfl d_BR_takeLiterals_44 ?_
    refine lv_aload_n hx hb d_BR_takeLiterals_47 rfl (lv_at hl 1 rfl) ?_
    refine va_get (D := (dC, dI)) (ci := 5) (v := .ref g) (C := R_BR) (T := T_BR) (N := 9) hx hb hts w_226 hown hK hP 0 rfl rfl 0 (by decide) (hts _ w_230) (fun _ h9 => h9) rfl d_BR_takeLiterals_48 ?_
    refine lv_aload_n hx hb d_BR_takeLiterals_51 rfl (lv_at hl 1 rfl) ?_
    refine va_get (D := (dC, dI)) (ci := 5) (v := .int b_at) (C := R_BR) (T := T_BR) (N := 9) hx hb hts w_226 hown hK hP 0 rfl rfl 3 (by decide) (hts _ w_228) (fun _ h9 => h9) rfl d_BR_takeLiterals_52 ?_
    refine lv_aload_n hx hb d_BR_takeLiterals_55 rfl (lv_at hl 1 rfl) ?_
    refine va_get (D := (dC, dI)) (ci := 5) (v := .int b_at) (C := R_BR) (T := T_BR) (N := 9) hx hb hts w_226 hown hK hP 0 rfl rfl 3 (by decide) (hts _ w_228) (fun _ h9 => h9) rfl d_BR_takeLiterals_56 ?_
    refine lv_iload_n hx hb d_BR_takeLiterals_59 rfl (lv_at hl 0 rfl) ?_
    refine lv_iadd hx hb d_BR_takeLiterals_60 ?_
    obtain ⟨r61, tn_61, tf_61, hc61, hf⟩ := bd3_some hf
    refine s_Vi (As := [.ref g, .int b_at, .int (b_at + (mn x1 (mn (b_end - b_at) (b_most - r32))))]) (rest := []) (wr := [(br, .inr (5, [.ref g, .ref hs, .ref t, .int b_at, .int b_end, .int b_start, .int b_most, .int b_dist, .int b_place]))]) (ws' := wd_BR_takeLiterals br g ga t ta hs cB cI cJ b_at b_end b_start b_most b_dist b_place gn gf tn_61 tf_61) C.call (c_Row_addFrom l dC dI cB cI cJ t ta g ga 8000 8000 tn tf gn gf b_at (b_at + (mn x1 (mn (b_end - b_at) (b_most - r32)))) hc61) (cwV 3 hts (gd_V w_249 w_19 w_20 w_12 w_21) rfl rfl rfl ⟨rfl, hd_Row_addFrom⟩ ⟨Nat.le_of_ble_eq_true rfl, Nat.le_of_ble_eq_true rfl⟩) rfl hl.1 rfl (Nat.le_of_ble_eq_true rfl) d_BR_takeLiterals_61 ⟨Nat.le_of_ble_eq_true rfl, Nat.le_of_ble_eq_true rfl⟩ hZ hK hP hD hS hA 1 3 rfl rfl [3, 4, 1, 2] [0] [0, 3, 4, 1, 2] rfl rfl rfl rfl (by decide) rfl rfl (fun H locs hP hD hS => ?_)
    refine lv_pop hx hb d_BR_takeLiterals_64 rfl ?_
    refine lv_aload_n hx hb d_BR_takeLiterals_65 rfl (lv_at hl 1 rfl) ?_
    refine lv_dup hx hb d_BR_takeLiterals_66 rfl ?_
    refine va_get (D := (dC, dI)) (ci := 5) (v := .int b_at) (C := R_BR) (T := T_BR) (N := 9) hx hb hts w_226 hown hK hP 0 rfl rfl 3 (by decide) (hts _ w_228) (fun _ h9 => h9) rfl d_BR_takeLiterals_67 ?_
    refine lv_iload_n hx hb d_BR_takeLiterals_70 rfl (lv_at hl 0 rfl) ?_
    refine lv_iadd hx hb d_BR_takeLiterals_71 ?_
    refine va_put (D := (dC, dI)) (ci := 5) (v := .int (b_at + (mn x1 (mn (b_end - b_at) (b_most - r32))))) (ty := .int) (C := R_BR) (T := T_BR) (N := 9) hx hb hts w_226 ty_BR ty_BR_ok nm_BR hown hK hP hD hS 0 rfl rfl 3 (by decide) (hts _ w_228) (fun _ h9 => h9) rfl (by decide +kernel) rfl rfl (Nat.le_of_ble_eq_true rfl) d_BR_takeLiterals_72 (fun H locs hP hD hS => ?_)
    have hP : va_P (dC, dI) vwCl (wd_BR_takeLiterals br g ga t ta hs cB cI cJ (b_at + (mn x1 (mn (b_end - b_at) (b_most - r32)))) b_end b_start b_most b_dist b_place gn gf tn_61 tf_61) H := hP
    have hD : va_D A (wd_BR_takeLiterals br g ga t ta hs cB cI cJ (b_at + (mn x1 (mn (b_end - b_at) (b_most - r32)))) b_end b_start b_most b_dist b_place gn gf tn_61 tf_61) := hD
    refine lv_iload_n hx hb d_BR_takeLiterals_75 rfl (lv_at hl 0 rfl) ?_
    refine lv_iload_n hx hb d_BR_takeLiterals_76 rfl (lv_at hl 2 rfl) ?_
    refine lv_icmp_ne (tgt := 82) hx hb d_BR_takeLiterals_77 (by decide) (fun c_77 => ?_) (fun c_77 => ?_)
    · have hf := br_neg c_77 hf
      refine lv_aload_n hx hb d_BR_takeLiterals_82 rfl (lv_at hl 1 rfl) ?_
      refine va_get (D := (dC, dI)) (ci := 5) (v := .int (b_at + (mn x1 (mn (b_end - b_at) (b_most - r32))))) (C := R_BR) (T := T_BR) (N := 9) hx hb hts w_226 hown hK hP 0 rfl rfl 3 (by decide) (hts _ w_228) (fun _ h9 => h9) rfl d_BR_takeLiterals_83 ?_
      refine lv_aload_n hx hb d_BR_takeLiterals_86 rfl (lv_at hl 1 rfl) ?_
      refine va_get (D := (dC, dI)) (ci := 5) (v := .int b_end) (C := R_BR) (T := T_BR) (N := 9) hx hb hts w_226 hown hK hP 0 rfl rfl 4 (by decide) (hts _ w_229) (fun _ h9 => h9) rfl d_BR_takeLiterals_87 ?_
      refine lv_icmp_lt (tgt := 105) hx hb d_BR_takeLiterals_90 (by decide) (fun c_90 => ?_) (fun c_90 => ?_)
      · have hf := br_pos c_90 hf
        refine lv_aload_n hx hb d_BR_takeLiterals_105 rfl (lv_at hl 1 rfl) ?_
        refine lv_iconst (v := 3) hx hb d_BR_takeLiterals_106 (by decide) ?_
        refine lv_aload_n hx hb d_BR_takeLiterals_107 rfl (lv_at hl 1 rfl) ?_
        refine va_get (D := (dC, dI)) (ci := 5) (v := .int (b_at + (mn x1 (mn (b_end - b_at) (b_most - r32))))) (C := R_BR) (T := T_BR) (N := 9) hx hb hts w_226 hown hK hP 0 rfl rfl 3 (by decide) (hts _ w_228) (fun _ h9 => h9) rfl d_BR_takeLiterals_108 ?_
        obtain ⟨r111, b_place_111, hc111, hf⟩ := bd2_some hf
        refine s_Vi (As := [.int (3 : Int32), .int (b_at + (mn x1 (mn (b_end - b_at) (b_most - r32))))]) (rest := []) (wr := [(g, .inr (1, [.ref ga, .int gn])), (ga, .inl (cB, 8000, .inl gf)), (t, .inr (1, [.ref ta, .int tn_61])), (ta, .inl (cB, 8000, .inl tf_61))]) (ws' := wd_BR_takeLiterals br g ga t ta hs cB cI cJ (b_at + (mn x1 (mn (b_end - b_at) (b_most - r32)))) b_end b_start b_most b_dist b_place_111 gn gf tn_61 tf_61) C.call (c_BR_fault l dC dI cB cI cJ br g hs t  (b_at + (mn x1 (mn (b_end - b_at) (b_most - r32)))) b_end b_start b_most b_dist b_place (3 : Int32) (b_at + (mn x1 (mn (b_end - b_at) (b_most - r32)))) hc111) (cwV 2 hts (gd_V w_239 w_240 w_241 w_242 w_243) rfl rfl rfl ⟨rfl, hd_BR_fault⟩ ⟨Nat.le_of_ble_eq_true rfl, Nat.le_of_ble_eq_true rfl⟩) rfl hl.1 rfl (Nat.le_of_ble_eq_true rfl) d_BR_takeLiterals_111 ⟨Nat.le_of_ble_eq_true rfl, Nat.le_of_ble_eq_true rfl⟩ hZ hK hP hD hS hA 5 0 rfl rfl [0] [1, 2, 3, 4] [4, 0, 1, 2, 3] rfl rfl rfl rfl (by decide) rfl rfl (fun H locs hP hD hS => ?_)
        cases hf
        exact s_iret hx hb hr hlocks hP hK hD hS d_BR_takeLiterals_114
      · have hf := br_neg c_90 hf
        refine lv_aload_n hx hb d_BR_takeLiterals_93 rfl (lv_at hl 1 rfl) ?_
        refine lv_iconst (v := 1) hx hb d_BR_takeLiterals_94 (by decide) ?_
        refine lv_aload_n hx hb d_BR_takeLiterals_95 rfl (lv_at hl 1 rfl) ?_
        refine va_get (D := (dC, dI)) (ci := 5) (v := .int b_end) (C := R_BR) (T := T_BR) (N := 9) hx hb hts w_226 hown hK hP 0 rfl rfl 4 (by decide) (hts _ w_229) (fun _ h9 => h9) rfl d_BR_takeLiterals_96 ?_
        obtain ⟨r99, b_place_99, hc99, hf⟩ := bd2_some hf
        refine s_Vi (As := [.int (1 : Int32), .int b_end]) (rest := []) (wr := [(g, .inr (1, [.ref ga, .int gn])), (ga, .inl (cB, 8000, .inl gf)), (t, .inr (1, [.ref ta, .int tn_61])), (ta, .inl (cB, 8000, .inl tf_61))]) (ws' := wd_BR_takeLiterals br g ga t ta hs cB cI cJ (b_at + (mn x1 (mn (b_end - b_at) (b_most - r32)))) b_end b_start b_most b_dist b_place_99 gn gf tn_61 tf_61) C.call (c_BR_fault l dC dI cB cI cJ br g hs t  (b_at + (mn x1 (mn (b_end - b_at) (b_most - r32)))) b_end b_start b_most b_dist b_place (1 : Int32) b_end hc99) (cwV 2 hts (gd_V w_239 w_240 w_241 w_242 w_243) rfl rfl rfl ⟨rfl, hd_BR_fault⟩ ⟨Nat.le_of_ble_eq_true rfl, Nat.le_of_ble_eq_true rfl⟩) rfl hl.1 rfl (Nat.le_of_ble_eq_true rfl) d_BR_takeLiterals_99 ⟨Nat.le_of_ble_eq_true rfl, Nat.le_of_ble_eq_true rfl⟩ hZ hK hP hD hS hA 5 0 rfl rfl [0] [1, 2, 3, 4] [4, 0, 1, 2, 3] rfl rfl rfl rfl (by decide) rfl rfl (fun H locs hP hD hS => ?_)
        refine lv_goto (tgt := 114) hx hb d_BR_takeLiterals_102 (by decide) ?_
        cases hf
        exact s_iret hx hb hr hlocks hP hK hD hS d_BR_takeLiterals_114
    · have hf := br_pos c_77 hf
      refine lv_iconst (v := 0) hx hb d_BR_takeLiterals_80 (by decide) ?_
      cases hf
      exact s_iret hx hb hr hlocks hP hK hD hS d_BR_takeLiterals_81
  · have hf := br_neg c_1 hf
    refine lv_aload_n hx hb d_BR_takeLiterals_4 rfl (lv_at hl 0 rfl) ?_
    refine lv_iconst (v := 1) hx hb d_BR_takeLiterals_5 (by decide) ?_
    refine lv_aload_n hx hb d_BR_takeLiterals_6 rfl (lv_at hl 0 rfl) ?_
    refine va_get (D := (dC, dI)) (ci := 5) (v := .int b_end) (C := R_BR) (T := T_BR) (N := 9) hx hb hts w_226 hown hK hP 0 rfl rfl 4 (by decide) (hts _ w_229) (fun _ h9 => h9) rfl d_BR_takeLiterals_7 ?_
    obtain ⟨r10, b_place_10, hc10, hf⟩ := bd2_some hf
    refine s_Vi (As := [.int (1 : Int32), .int b_end]) (rest := []) (wr := [(g, .inr (1, [.ref ga, .int gn])), (ga, .inl (cB, 8000, .inl gf)), (t, .inr (1, [.ref ta, .int tn])), (ta, .inl (cB, 8000, .inl tf))]) (ws' := wd_BR_takeLiterals br g ga t ta hs cB cI cJ b_at b_end b_start b_most b_dist b_place_10 gn gf tn tf) C.call (c_BR_fault l dC dI cB cI cJ br g hs t  b_at b_end b_start b_most b_dist b_place (1 : Int32) b_end hc10) (cwV 2 hts (gd_V w_239 w_240 w_241 w_242 w_243) rfl rfl rfl ⟨rfl, hd_BR_fault⟩ ⟨Nat.le_of_ble_eq_true rfl, Nat.le_of_ble_eq_true rfl⟩) rfl hl.1 rfl (Nat.le_of_ble_eq_true rfl) d_BR_takeLiterals_10 ⟨Nat.le_of_ble_eq_true rfl, Nat.le_of_ble_eq_true rfl⟩ hZ hK hP hD hS hA 5 0 rfl rfl [0] [1, 2, 3, 4] [4, 0, 1, 2, 3] rfl rfl rfl rfl (by decide) rfl rfl (fun H locs hP hD hS => ?_)
    cases hf
    exact s_iret hx hb hr hlocks hP hK hD hS d_BR_takeLiterals_13
end
noncomputable abbrev f_BR_takeLiterals (x1 : Int32) (b_at : Int32) (b_end : Int32) (b_most : Int32) (b_place : Int32) (gn : Int32) (gf : Nat → Int32) (tn : Int32) (tf : Nat → Int32) : Option (Int32 × Int32 × Int32 × Int32 × (Nat → Int32)) := j_BR_takeLiterals_0 x1 b_at b_end b_most b_place gn gf tn tf
set_option maxRecDepth 100000 in
theorem c_BR_takeLiterals (l : Launch) (dC : Nat → ClassId) (dI : Nat → Nat → Nat) (cB cI cJ : ClassId) (br g ga t ta hs : Nat) (b_at : Int32) (b_end : Int32) (b_start : Int32) (b_most : Int32) (b_dist : Int32) (b_place : Int32) (gn : Int32) (gf : Nat → Int32) (tn : Int32) (tf : Nat → Int32) (x1 : Int32) {r_z : Int32} {b_at_z : Int32} {b_place_z : Int32} {tn_z : Int32} {tf_z : Nat → Int32} (hf : f_BR_takeLiterals x1 b_at b_end b_most b_place gn gf tn tf = some (r_z, b_at_z, b_place_z, tn_z, tf_z)) : MetI l y_BR_takeLiterals ws_BR_takeLiterals rm_BR_takeLiterals (dC, dI) vwCl [(cB, .byte), (cI, .int), (cJ, .long)] [.ref br, .int x1] (wd_BR_takeLiterals br g ga t ta hs cB cI cJ b_at b_end b_start b_most b_dist b_place gn gf tn tf) r_z (wd_BR_takeLiterals br g ga t ta hs cB cI cJ b_at_z b_end b_start b_most b_dist b_place_z gn gf tn_z tf_z) 0 0 :=
  s_ofi (bytes := cd_BR_takeLiterals) (maxL := 3) (ret := (some .int)) (by decide) rfl (Nat.le_of_ble_eq_true rfl) (fun p e s m below meth c A ls C hK hA hP hD hS hl => k_BR_takeLiterals_0 C hK hA x1 b_at b_end b_start b_most b_dist b_place gn gf tn tf hf hP hD hS (lv_sub hl [0, 1] rfl))
