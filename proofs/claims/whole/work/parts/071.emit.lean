/-! What a block is made of, as a row that grows; the class's emitting. -/
abbrev Sq : Type := Nat × (Nat → Nat)
def push (s : Sq) (v : Nat) : Sq := (s.1 + 1, updB s.2 s.1 v)
def rep (v : Nat) : Nat → Sq → Sq
  | 0, s => s
  | n + 1, s => rep v n (push s v)
theorem rep_0 (v : Nat) (s : Sq) : rep v 0 s = s := rfl
theorem rep_s (v n : Nat) (s : Sq) : rep v (n + 1) s = rep v n (push s v) := rfl
theorem rep_1 (v : Nat) : ∀ (n : Nat) (s : Sq), (rep v n s).1 = s.1 + n := by
  intro n
  induction n with
  | zero => intro s; rfl
  | succ n ih => intro s; rw [rep_s, ih]; show s.1 + 1 + n = _; omega
/-- bytes that are added to a half of a token -/
def grow (v : Nat) (s : Sq) : Sq := if v < 15 then s else push (rep 255 ((v - 15) / 255) s) ((v - 15) % 255)
def lits (D : Nat → Nat) (a b : Nat) (s : Sq) : Sq := (s.1 + (b - a), catB s.2 s.1 D a)
def litS (D : Nat → Nat) (a b v : Nat) (s : Sq) : Sq := lits D a b (grow (b - a) (push s (min (b - a) 15 * 16 + min v 15)))
def cpyS (d v : Nat) (s : Sq) : Sq := grow v (push (push s (d % 256)) (d / 256))
/-- the sequences from p on, the literals since a still to come -/
def blk (D : Nat → Nat) (n way : Nat) : Nat → Nat → Nat → Sq → Sq
  | 0, _, _, s => s
  | f + 1, a, p, s => if n < p + 12 then litS D a n 0 s else if lookN D n p way = 0 then blk D n way f a (p + 1) s else blk D n way f (p + lookN D n p way) (p + lookN D n p way) (cpyS (p - (rawN D n p way).2) (lookN D n p way - 4) (litS D a p (lookN D n p way - 4) s))
theorem blk_s (D : Nat → Nat) (n way f a p : Nat) (s : Sq) : blk D n way (f + 1) a p s = if n < p + 12 then litS D a n 0 s else if lookN D n p way = 0 then blk D n way f a (p + 1) s else blk D n way f (p + lookN D n p way) (p + lookN D n p way) (cpyS (p - (rawN D n p way).2) (lookN D n p way - 4) (litS D a p (lookN D n p way - 4) s)) := by rw [blk]
theorem grow_le (v : Nat) (s : Sq) : s.1 ≤ (grow v s).1 := by
  unfold grow
  split
  · exact Nat.le_refl _
  · show s.1 ≤ (rep 255 _ s).1 + 1
    rw [rep_1]; omega
theorem litS_le (D : Nat → Nat) (a b v : Nat) (s : Sq) : s.1 + 1 ≤ (litS D a b v s).1 := by
  have := grow_le (b - a) (push s (min (b - a) 15 * 16 + min v 15))
  have e : (push s (min (b - a) 15 * 16 + min v 15)).1 = s.1 + 1 := rfl
  show _ ≤ (grow _ _).1 + _
  omega
theorem cpyS_le (d v : Nat) (s : Sq) : s.1 + 2 ≤ (cpyS d v s).1 := by
  have := grow_le v (push (push s (d % 256)) (d / 256))
  exact this
theorem blk_le (D : Nat → Nat) (n way : Nat) : ∀ (f a p : Nat) (s : Sq), s.1 ≤ (blk D n way f a p s).1 := by
  intro f
  induction f with
  | zero => intro a p s; rw [blk]; exact Nat.le_refl _
  | succ f ih =>
    intro a p s
    rw [blk_s]
    split
    · have := litS_le D a n 0 s; omega
    · split
      · exact ih _ _ _
      · have h1 := ih (p + lookN D n p way) (p + lookN D n p way) (cpyS (p - (rawN D n p way).2) (lookN D n p way - 4) (litS D a p (lookN D n p way - 4) s))
        have h2 := cpyS_le (p - (rawN D n p way).2) (lookN D n p way - 4) (litS D a p (lookN D n p way - 4) s)
        have h3 := litS_le D a p (lookN D n p way - 4) s
        omega
/-- what an emitting step of the class comes to: all of it, or no room -/
def Out (s : Sq) (r : Option (Int32 × Int32 × (Nat → Int32))) : Prop := (s.1 ≤ 8000 ∧ ∃ f', r = some (1, nI s.1, f') ∧ Rw 8000 s.1 (nI s.1) f' s.2) ∨ (8000 < s.1 ∧ ∃ (k' : Nat) (n' : Int32) (f' : Nat → Int32) (B' : Nat → Nat), r = some (0, n', f') ∧ Rw 8000 k' n' f' B')
theorem Out.seq {s1 s2 : Sq} {r : Option (Int32 × Int32 × (Nat → Int32))} (h : Out s1 r) (hle : s1.1 ≤ s2.1) {K : Int32 → (Nat → Int32) → Option (Int32 × Int32 × (Nat → Int32))} (hK : ∀ f', s1.1 ≤ 8000 → Rw 8000 s1.1 (nI s1.1) f' s1.2 → Out s2 (K (nI s1.1) f')) : Out s2 (bd3 r (fun r n f => if r = 0 then some (0, n, f) else K n f)) := by
  rcases h with ⟨h1, f', e, h2⟩ | ⟨h1, k', n', f', B', e, h2⟩
  · rw [bd3_of e, if_neg (by decide)]
    exact hK f' h1 h2
  · rw [bd3_of e, if_pos rfl]
    exact Or.inr ⟨by omega, k', n', f', B', rfl, h2⟩
theorem Out.one {s : Sq} {r : Option (Int32 × Int32 × (Nat → Int32))} (h : Out s r) : Out s (bd3 r (fun r n f => if r = 0 then some (0, n, f) else some (1, n, f))) := h.seq (Nat.le_refl _) (fun f' h1 h2 => Or.inl ⟨h1, f', rfl, h2⟩)
theorem o_add {s : Sq} {n : Int32} {f : Nat → Int32} (h : Rw 8000 s.1 n f s.2) (x : Int32) : Out (push s (lo8 x)) (f_Row_add 8000 x n f) := by
  by_cases c : s.1 < 8000
  · obtain ⟨e, g⟩ := s_add1 x h c
    exact Or.inl ⟨c, _, e, g⟩
  · have hk := h.2.1
    have e8 : s.1 = 8000 := by omega
    refine Or.inr ⟨by show 8000 < s.1 + 1; omega, s.1, n, f, s.2, ?_, h⟩
    rw [e8] at h
    exact s_add0 x h
theorem o_lits {s : Sq} {n n2 : Int32} {f f2 : Nat → Int32} {k : Nat} {D : Nat → Nat} (h : Rw 8000 s.1 n f s.2) (g : Rw 16000 k n2 f2 D) {a b : Nat} (hab : a ≤ b) (hb : b ≤ k) : Out (lits D a b s) (f_Row_addFrom 8000 16000 (nI a) (nI b) n f n2 f2) := by
  by_cases c : s.1 + (b - a) ≤ 8000
  · obtain ⟨f', e, q⟩ := s_addFrom h g hab hb c
    exact Or.inl ⟨c, f', e, q⟩
  · exact Or.inr ⟨by show 8000 < s.1 + (b - a); omega, s.1, n, f, s.2, s_addFromN h g hab hb (by omega), h⟩
theorem lo8_of (n : Nat) : lo8 (nI n) = n % 256 := by
  unfold lo8
  show vN (nI n) % 256 = _
  rw [vN_nI]
  omega
theorem z_ok : ∀ r : Int32, (r = 0 ∨ r = 1) → narrow .boolean (.int r) = .int r := by
  intro r h
  rcases h with rfl | rfl <;> rfl
theorem grow_loop : ∀ (q fuel v : Nat) (s : Sq) (n : Int32) (f : Nat → Int32), v / 255 = q → v ≤ 16000 → q < fuel → Rw 8000 s.1 n f s.2 → Out (push (rep 255 q s) (v % 255)) (loop3 (b_BW_addGrowth_13 8000) fuel (nI v) n f) := by
  intro q
  induction q with
  | zero =>
    intro fuel v s n f hv h16 hf h
    obtain ⟨fuel, rfl⟩ : ∃ z, fuel = z + 1 := ⟨fuel - 1, by omega⟩
    rw [loop3_s, b_BW_addGrowth_13, if_pos (show nI v < 255 from nI_lt (b := 255) (by omega) (by decide)), rep_0]
    have o := o_add h (nI v)
    rw [lo8_of, show v % 256 = v % 255 from by omega] at o
    rcases o with ⟨h1, f', e, h2⟩ | ⟨h1, k', n', f', B', e, h2⟩
    · rw [bd3_of e, as_of (z_ok 1 (Or.inr rfl))]
      exact Or.inl ⟨h1, f', rfl, h2⟩
    · rw [bd3_of e, as_of (z_ok 0 (Or.inl rfl))]
      exact Or.inr ⟨h1, k', n', f', B', rfl, h2⟩
  | succ q ih =>
    intro fuel v s n f hv h16 hf h
    obtain ⟨fuel, rfl⟩ : ∃ z, fuel = z + 1 := ⟨fuel - 1, by omega⟩
    rw [loop3_s, b_BW_addGrowth_13, if_neg (show ¬ nI v < 255 from nI_nlt (b := 255) (by omega) (by omega)), rep_s]
    have o := o_add h (255 : Int32)
    rw [show lo8 (255 : Int32) = 255 from lo8_nI (n := 255) (by decide)] at o
    have hle : (push s 255).1 ≤ (push (rep 255 q (push s 255)) (v % 255)).1 := by
      show (push s 255).1 ≤ (rep 255 q (push s 255)).1 + 1
      rw [rep_1]; omega
    refine o.seq hle (fun f' h1 h2 => ?_)
    rw [show nI v + (-255 : Int32) = nI (v - 255) from by rw [← Int32.sub_eq_add_neg]; exact pk_sub (by omega : 255 ≤ v)]
    have := ih fuel (v - 255) (push s 255) (nI (push s 255).1) f' (by omega) (by omega) (by omega) h2
    rw [show (v - 255) % 255 = v % 255 from by omega] at this
    exact this
theorem o_grow {N : Nat} (hN : 20000 < N) {s : Sq} {n : Int32} {f : Nat → Int32} (h : Rw 8000 s.1 n f s.2) {v : Nat} (hv : v ≤ 16000) : Out (grow v s) (f_BW_addGrowth N 8000 (nI v) n f) := by
  unfold f_BW_addGrowth grow
  rw [j_BW_addGrowth_0]
  by_cases c : v < 15
  · rw [if_neg (show ¬ (15 : Int32) ≤ nI v from nI_ge (b := 15) c (by decide)), if_pos c, h.1]
    have h2 := h
    rw [h.1] at h2
    exact Or.inl ⟨h.2.1, f, rfl, h2⟩
  · rw [if_pos (show (15 : Int32) ≤ nI v from nI_le (a := 15) (by omega) (by omega)), if_neg c, show nI v - (15 : Int32) = nI (v - 15) from pk_sub (by omega : 15 ≤ v)]
    exact grow_loop ((v - 15) / 255) N (v - 15) s n f rfl (by omega) (by omega) h
theorem mn15 {a : Nat} (h : a ≤ 16000) : mn (nI a) 15 = nI (min a 15) := by
  unfold mn
  by_cases c : 15 < a
  · rw [if_pos (show (15 : Int32) < nI a from nI_lt (a := 15) c (by omega)), show min a 15 = 15 from by omega]; rfl
  · rw [if_neg (show ¬ (15 : Int32) < nI a from nI_nlt (a := 15) (by omega) (by decide)), show min a 15 = a from by omega]
theorem token_eq {a b : Nat} (ha : a ≤ 15) (hb : b ≤ 15) : (nI a <<< ((4 : Int32) &&& 31)) ||| nI b = nI (a * 16 + b) := by
  apply vN_inj
  rw [vN_or, show (4 : Int32) = nI 4 from rfl, vN_sl (by decide), vN_nI, vN_nI, vN_nI, Nat.mod_eq_of_lt (by omega : a < 2 ^ 32), Nat.mod_eq_of_lt (by omega : b < 2 ^ 32), Nat.mod_eq_of_lt (by omega : a * 2 ^ 4 < 2 ^ 32), Nat.or_comm, or_add (by omega : b < 2 ^ 4)]
  omega
theorem o_litS {N : Nat} (hN : 20000 < N) {s : Sq} {n n2 : Int32} {f f2 : Nat → Int32} {k : Nat} {D : Nat → Nat} (h : Rw 8000 s.1 n f s.2) (g : Rw 16000 k n2 f2 D) {a b v : Nat} (hab : a ≤ b) (hb : b ≤ k) (hv : v ≤ 16000) : Out (litS D a b v s) (f_BW_addLiterals N (nI a) (nI b) (nI v) n2 f2 n f) := by
  have hk := g.2.1
  unfold f_BW_addLiterals litS
  rw [j_BW_addLiterals_0, pk_sub hab, mn15 (by omega), mn15 hv, token_eq (by omega) (by omega)]
  have o1 := o_add h (nI (min (b - a) 15 * 16 + min v 15))
  rw [lo8_nI (by omega)] at o1
  refine o1.seq (by have := grow_le (b - a) (push s (min (b - a) 15 * 16 + min v 15)); show _ ≤ (grow _ _).1 + _; omega) (fun f1 _ h1 => ?_)
  refine (o_grow hN h1 (v := b - a) (by omega)).seq (by show _ ≤ (grow _ _).1 + _; omega) (fun f2' _ h2 => ?_)
  exact (o_lits h2 g hab hb).one
theorem o_cpyS {N : Nat} (hN : 20000 < N) {s : Sq} {n : Int32} {f : Nat → Int32} (h : Rw 8000 s.1 n f s.2) {d v : Nat} (hd : d ≤ 16000) (hv : v ≤ 16000) : Out (cpyS d v s) (f_BW_addCopy N 8000 (nI d) (nI v) n f) := by
  unfold f_BW_addCopy cpyS
  rw [j_BW_addCopy_0, show nI d >>> ((8 : Int32) &&& 31) = nI (d / 256) from pk_shrN (by omega) _ 8 (by decide)]
  have o1 := o_add h (nI d)
  rw [lo8_of] at o1
  refine o1.seq (by have := grow_le v (push (push s (d % 256)) (d / 256)); have e : (push (push s (d % 256)) (d / 256)).1 = (push s (d % 256)).1 + 1 := rfl; omega) (fun f1 _ h1 => ?_)
  have o2 := o_add h1 (nI (d / 256))
  rw [lo8_nI (by omega)] at o2
  refine o2.seq (grow_le v _) (fun f2 _ h2 => ?_)
  exact (o_grow hN h2 hv).one
