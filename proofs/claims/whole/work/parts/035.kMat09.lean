abbrev wd_Mat_data (mt d la ea : Nat) (cB cI cJ : ClassId) (mc : Int32) (ms : Int32) (ml : Int32) : va_W := [(mt, .inr (3, [.ref d, .ref la, .ref ea, .int mc, .int ms, .int ml]))]
abbrev rm_Mat_data : Room := { frames := 0, cells := 0, slots := 0, locals := 0 }
section
variable {p : Program} {l : Launch} {e : Env} {s : State} {m : MethodId} {args : Array Value} {below : List Frame} {meth : Method} {c : Code} {dC : Nat → ClassId} {dI : Nat → Nat → Nat} {A : Nat → Prop} {cB cI cJ : ClassId} {H : Heap} {locs : List Loc} {ls : Array Slot} {N : Nat} {mt d la ea : Nat}
noncomputable def j_Mat_data_0   : Option (Unit) :=
  (some () : Option (Unit))
set_option maxHeartbeats 4000000 in
set_option maxRecDepth 100000 in
theorem k_Mat_data_0  (C : Fx p s m args meth c cd_Mat_data 1 R_Mat lw_g (some (.object "TokenFrames$Row"))) (hK : va_K (dC, dI) vwCl [(cB, .byte), (cI, .int), (cJ, .long)] s) (hA : ∀ q, s.heap.size ≤ q → A q) (mc : Int32) (ms : Int32) (ml : Int32)  (hf : j_Mat_data_0   = some ()) (hP : va_P (dC, dI) vwCl (wd_Mat_data mt d la ea cB cI cJ mc ms ml) H) (hD : va_D A (wd_Mat_data mt d la ea cB cI cJ mc ms ml)) (hS : va_S A s.heap H locs) (hl : lv_has ls 1 [(0, .ref mt)]) : W p l e rm_Mat_data s m args below meth c H locs 0 0 (MQ below (sQr (dC, dI) vwCl [(cB, .byte), (cI, .int), (cJ, .long)] A d (wd_Mat_data mt d la ea cB cI cJ mc ms ml)) args s 0 0 A) (F0 m 0 ls []) := by
  obtain ⟨hx, hb, hml, hown, hts, hr, hlocks, hZ⟩ := id C
  unfold j_Mat_data_0 at hf
  refine lv_aload_n hx hb d_Mat_data_0 rfl (lv_at hl 0 rfl) ?_
  refine va_get (D := (dC, dI)) (ci := 3) (v := .ref d) (C := R_Mat) (T := T_Mat) (N := 6) hx hb hts w_53 hown hK hP 0 rfl rfl 0 (by decide) (hts _ w_56) (fun _ h9 => h9) rfl d_Mat_data_1 ?_
  cases hf
  exact s_rret hx hb hr (Or.inl ⟨_, rfl⟩) hlocks hP hK hD hS d_Mat_data_4
end
noncomputable abbrev f_Mat_data  : Option (Unit) := j_Mat_data_0 
set_option maxRecDepth 100000 in
theorem c_Mat_data (l : Launch) (dC : Nat → ClassId) (dI : Nat → Nat → Nat) (cB cI cJ : ClassId) (mt d la ea : Nat) (mc : Int32) (ms : Int32) (ml : Int32)   (hf : f_Mat_data  = some ()) : MetR l y_Mat_data ws_Mat_data rm_Mat_data (dC, dI) vwCl [(cB, .byte), (cI, .int), (cJ, .long)] [.ref mt] (wd_Mat_data mt d la ea cB cI cJ mc ms ml) d (wd_Mat_data mt d la ea cB cI cJ mc ms ml) 0 0 :=
  s_ofr (bytes := cd_Mat_data) (maxL := 1) (ret := (some (.object "TokenFrames$Row"))) (by decide) rfl (Nat.le_of_ble_eq_true rfl) (fun p e s m below meth c A ls C hK hA hP hD hS hl => k_Mat_data_0 C hK hA mc ms ml hf hP hD hS (lv_sub hl [0] rfl))
