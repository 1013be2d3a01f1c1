abbrev wd_Mat_source (mt d la ea : Nat) (cB cI cJ : ClassId) (mc : Int32) (ms : Int32) (ml : Int32) : va_W := [(mt, .inr (3, [.ref d, .ref la, .ref ea, .int mc, .int ms, .int ml]))]
abbrev rm_Mat_source : Room := { frames := 0, cells := 0, slots := 0, locals := 0 }
section
variable {p : Program} {l : Launch} {e : Env} {s : State} {m : MethodId} {args : Array Value} {below : List Frame} {meth : Method} {c : Code} {dC : Nat → ClassId} {dI : Nat → Nat → Nat} {A : Nat → Prop} {cB cI cJ : ClassId} {H : Heap} {locs : List Loc} {ls : Array Slot} {N : Nat} {mt d la ea : Nat}
noncomputable def j_Mat_source_0 (ms : Int32)  : Option (Int32) :=
  (some ms : Option (Int32))
set_option maxHeartbeats 4000000 in
set_option maxRecDepth 100000 in
theorem k_Mat_source_0 {r_z : Int32} (C : Fx p s m args meth c cd_Mat_source 1 R_Mat lw_g (some .int)) (hK : va_K (dC, dI) vwCl [(cB, .byte), (cI, .int), (cJ, .long)] s) (hA : ∀ q, s.heap.size ≤ q → A q) (mc : Int32) (ms : Int32) (ml : Int32)  (hf : j_Mat_source_0 ms  = some r_z) (hP : va_P (dC, dI) vwCl (wd_Mat_source mt d la ea cB cI cJ mc ms ml) H) (hD : va_D A (wd_Mat_source mt d la ea cB cI cJ mc ms ml)) (hS : va_S A s.heap H locs) (hl : lv_has ls 1 [(0, .ref mt)]) : W p l e rm_Mat_source s m args below meth c H locs 0 0 (MQ below (sQi (dC, dI) vwCl [(cB, .byte), (cI, .int), (cJ, .long)] A r_z (wd_Mat_source mt d la ea cB cI cJ mc ms ml)) args s 0 0 A) (F0 m 0 ls []) := by
  obtain ⟨hx, hb, hml, hown, hts, hr, hlocks, hZ⟩ := id C
  unfold j_Mat_source_0 at hf
  refine lv_aload_n hx hb d_Mat_source_0 rfl (lv_at hl 0 rfl) ?_
  refine va_get (D := (dC, dI)) (ci := 3) (v := .int ms) (C := R_Mat) (T := T_Mat) (N := 6) hx hb hts w_53 hown hK hP 0 rfl rfl 4 (by decide) (hts _ w_67) (fun _ h9 => h9) rfl d_Mat_source_1 ?_
  cases hf
  exact s_iret hx hb hr hlocks hP hK hD hS d_Mat_source_4
end
noncomputable abbrev f_Mat_source (ms : Int32) : Option (Int32) := j_Mat_source_0 ms
set_option maxRecDepth 100000 in
theorem c_Mat_source (l : Launch) (dC : Nat → ClassId) (dI : Nat → Nat → Nat) (cB cI cJ : ClassId) (mt d la ea : Nat) (mc : Int32) (ms : Int32) (ml : Int32)  {r_z : Int32} (hf : f_Mat_source ms = some r_z) : MetI l y_Mat_source ws_Mat_source rm_Mat_source (dC, dI) vwCl [(cB, .byte), (cI, .int), (cJ, .long)] [.ref mt] (wd_Mat_source mt d la ea cB cI cJ mc ms ml) r_z (wd_Mat_source mt d la ea cB cI cJ mc ms ml) 0 0 :=
  s_ofi (bytes := cd_Mat_source) (maxL := 1) (ret := (some .int)) (by decide) rfl (Nat.le_of_ble_eq_true rfl) (fun p e s m below meth c A ls C hK hA hP hD hS hl => k_Mat_source_0 C hK hA mc ms ml hf hP hD hS (lv_sub hl [0] rfl))
