/-! ORDER -/
theorem x_lex_neg : ∀ (u v : List Int), x_lex v u = - x_lex u v
  | [], [] => rfl
  | [], _ :: _ => by unfold x_lex; rfl
  | _ :: _, [] => by unfold x_lex; rfl
  | a :: u, c :: v => by
    unfold x_lex
    by_cases q : a = c
    · rw [if_pos q, if_pos q.symm, x_lex_neg u v]
    · rw [if_neg q, if_neg (fun w => q w.symm)]
      split <;> split <;> omega
theorem x_lex_0 : ∀ (u v : List Int), x_lex u v = 0 → u = v
  | [], [], _ => rfl
  | [], _ :: _, h => by unfold x_lex at h; omega
  | _ :: _, [], h => by unfold x_lex at h; omega
  | a :: u, c :: v, h => by
    unfold x_lex at h
    by_cases q : a = c
    · rw [if_pos q] at h
      rw [q, x_lex_0 u v h]
    · rw [if_neg q] at h
      split at h <;> omega
theorem x_lex_self : ∀ (u : List Int), x_lex u u = 0
  | [] => rfl
  | a :: u => by
    unfold x_lex
    rw [if_pos rfl]
    exact x_lex_self u
theorem x_lex_tr : ∀ (u v w : List Int), x_lex u v ≤ 0 → x_lex v w ≤ 0 → x_lex u w ≤ 0
  | [], v, [], _, _ => by unfold x_lex; omega
  | [], v, _ :: _, _, _ => by unfold x_lex; omega
  | a :: u, [], w, h, _ => by unfold x_lex at h; omega
  | a :: u, c :: v, [], _, h => by unfold x_lex at h; omega
  | a :: u, c :: v, e :: w, h1, h2 => by
    unfold x_lex at h1 h2 ⊢
    by_cases q1 : a = c
    · rw [if_pos q1] at h1
      by_cases q2 : c = e
      · rw [if_pos q2] at h2
        rw [if_pos (q1.trans q2)]
        exact x_lex_tr u v w h1 h2
      · rw [if_neg q2] at h2
        have : c < e := by
          split at h2
          · assumption
          · omega
        rw [if_neg (by omega), if_pos (by omega)]
        omega
    · rw [if_neg q1] at h1
      have h3 : a < c := by
        split at h1
        · assumption
        · omega
      by_cases q2 : c = e
      · rw [if_neg (by omega), if_pos (by omega)]
        omega
      · rw [if_neg q2] at h2
        have : c < e := by
          split at h2
          · assumption
          · omega
        rw [if_neg (by omega), if_pos (by omega)]
        omega
theorem x_lex_cc {a c : Int} {u v : List Int} : x_lex (a :: u) (c :: v) = if a = c then x_lex u v else if a < c then -1 else 1 := by rw [x_lex]
theorem x_lex_app : ∀ (u v u' v' : List Int), u.length = u'.length → x_lex (u ++ v) (u' ++ v') = if x_lex u u' = 0 then x_lex v v' else x_lex u u'
  | [], v, [], v', h => by rw [show x_lex [] [] = 0 from rfl, if_pos rfl]; rfl
  | [], v, c :: u', v', h => by simp at h
  | a :: u, v, [], v', h => by simp at h
  | a :: u, v, c :: u', v', h => by
    rw [List.cons_append, List.cons_append]
    have ih := x_lex_app u v u' v' (by simpa using h)
    rw [x_lex_cc, x_lex_cc]
    by_cases q : a = c
    · rw [if_pos q, if_pos q]
      exact ih
    · rw [if_neg q, if_neg q]
      by_cases q2 : a < c
      · rw [if_pos q2, if_neg (by decide)]
      · rw [if_neg q2, if_neg (by decide)]
/-- the other way round -/
theorem x_lex_rev : ∀ (u v : List Int), x_okl u → x_okl v → x_lex (u.map (fun x => -x) ++ [1]) (v.map (fun x => -x) ++ [1]) = - x_lex u v
  | [], [], _, _ => by decide
  | [], c :: v, _, h => by
    have := h c (by simp)
    simp only [List.map_nil, List.map_cons, List.nil_append, List.cons_append]
    unfold x_lex
    rw [if_neg (by omega), if_neg (by omega)]
    rfl
  | a :: u, [], h, _ => by
    have := h a (by simp)
    simp only [List.map_nil, List.map_cons, List.nil_append, List.cons_append]
    unfold x_lex
    rw [if_neg (by omega), if_pos (by omega)]
  | a :: u, c :: v, h, h2 => by
    have ih := x_lex_rev u v (fun x hx => h x (List.mem_cons_of_mem _ hx)) (fun x hx => h2 x (List.mem_cons_of_mem _ hx))
    simp only [List.map_cons, List.cons_append]
    unfold x_lex
    by_cases q : a = c
    · rw [if_pos (by omega), if_pos q]
      exact ih
    · rw [if_neg (by omega), if_neg q]
      split <;> split <;> omega
/-- a total preorder, and the strict one that puts the earlier first -/
def x_tot (c : Nat → Nat → Int) : Prop := (∀ p q, c q p = - c p q) ∧ ∀ p q r, c p q ≤ 0 → c q r ≤ 0 → c p r ≤ 0
def x_lt (c : Nat → Nat → Int) (p q : Nat) : Prop := c p q < 0 ∨ (c p q = 0 ∧ p < q)
section OR
variable {c : Nat → Nat → Int} {u : Bool} {p q r : Nat}
theorem x_tot.zz (h : x_tot c) (h1 : c p q = 0) (h2 : c q r = 0) : c p r = 0 := by
  have a := h.2 p q r (by omega) (by omega)
  have b1 := h.1 p q
  have b2 := h.1 q r
  have b3 := h.1 p r
  have b := h.2 r q p (by omega) (by omega)
  omega
theorem x_tot.lz (h : x_tot c) (h1 : c p q < 0) (h2 : c q r ≤ 0) : c p r < 0 := by
  have a := h.2 p q r (by omega) h2
  have b1 := h.1 p q
  have b3 := h.1 p r
  by_cases w : c p r = 0
  · have b := h.2 q r p h2 (by omega)
    omega
  · omega
theorem x_tot.zl (h : x_tot c) (h1 : c p q ≤ 0) (h2 : c q r < 0) : c p r < 0 := by
  have a := h.2 p q r h1 (by omega)
  have b1 := h.1 q r
  have b3 := h.1 p r
  by_cases w : c p r = 0
  · have b := h.2 r p q (by omega) h1
    omega
  · omega
theorem x_lt_tr (h : x_tot c) (h1 : x_lt c p q) (h2 : x_lt c q r) : x_lt c p r := by
  unfold x_lt at *
  rcases h1 with h1 | ⟨h1, k1⟩
  · rcases h2 with h2 | ⟨h2, k2⟩
    · exact .inl (h.lz h1 (by omega))
    · exact .inl (h.lz h1 (by omega))
  · rcases h2 with h2 | ⟨h2, k2⟩
    · exact .inl (h.zl (by omega) h2)
    · exact .inr ⟨h.zz h1 h2, by omega⟩
theorem x_lt_as (h : x_tot c) (h1 : x_lt c p q) (h2 : x_lt c q p) : False := by
  have := h.1 p q
  unfold x_lt at *
  omega
theorem x_lt_le (h1 : x_lt c p q) : c p q ≤ 0 := by
  unfold x_lt at h1
  omega
theorem x_uni (h : x_tot c) : ∀ (l l' : List Nat), l.Pairwise (x_lt c) → l'.Pairwise (x_lt c) → (∀ p, p ∈ l ↔ p ∈ l') → l = l'
  | [], [], _, _, _ => rfl
  | [], b :: l', _, _, hm => absurd ((hm b).2 (by simp)) (by simp)
  | a :: l, [], _, _, hm => absurd ((hm a).1 (by simp)) (by simp)
  | a :: l, b :: l', h1, h2, hm => by
    rw [List.pairwise_cons] at h1 h2
    have hab : a = b := by
      rcases List.mem_cons.1 ((hm a).1 (by simp)) with w | w
      · exact w
      · rcases List.mem_cons.1 ((hm b).2 (by simp)) with w2 | w2
        · exact w2.symm
        · exact absurd (h2.1 a w) (fun y => x_lt_as h y (h1.1 b w2))
    subst hab
    congr 1
    refine x_uni h l l' h1.2 h2.2 (fun p => ⟨fun w => ?_, fun w => ?_⟩)
    · rcases List.mem_cons.1 ((hm p).1 (List.mem_cons_of_mem _ w)) with y | y
      · subst y
        exact absurd (h1.1 p w) (fun y => x_lt_as h y y)
      · exact y
    · rcases List.mem_cons.1 ((hm p).2 (List.mem_cons_of_mem _ w)) with y | y
      · subst y
        exact absurd (h2.1 p w) (fun y => x_lt_as h y y)
      · exact y
/-- where one goes in, from the end on -/
def z_ip (c : Nat → Nat → Int) (p : Nat) (l : List Nat) : Nat → Nat
  | 0 => 0
  | k + 1 => if 0 < c (l.getD k 0) p then z_ip c p l k else k + 1
def z_i1 (c : Nat → Nat → Int) (u : Bool) (p : Nat) (l : List Nat) : List Nat := if u = true ∧ 0 < z_ip c p l l.length ∧ c (l.getD (z_ip c p l l.length - 1) 0) p = 0 then l else l.take (z_ip c p l l.length) ++ p :: l.drop (z_ip c p l l.length)
def z_is (c : Nat → Nat → Int) (u : Bool) : Nat → List Nat
  | 0 => []
  | n + 1 => z_i1 c u n (z_is c u n)
theorem z_ip_sp {l : List Nat} : ∀ (n : Nat), z_ip c p l n ≤ n ∧ (∀ j, z_ip c p l n ≤ j → j < n → 0 < c (l.getD j 0) p) ∧ (0 < z_ip c p l n → c (l.getD (z_ip c p l n - 1) 0) p ≤ 0)
  | 0 => ⟨Nat.le_refl _, fun j _ h => by omega, fun h => absurd h (by unfold z_ip; omega)⟩
  | n + 1 => by
    obtain ⟨h1, h2, h3⟩ := z_ip_sp (l := l) n
    unfold z_ip
    by_cases q : 0 < c (l.getD n 0) p
    · rw [if_pos q]
      refine ⟨by omega, fun j hj hn => ?_, h3⟩
      by_cases w : j = n
      · rw [w]; exact q
      · exact h2 j hj (by omega)
    · rw [if_neg q]
      refine ⟨Nat.le_refl _, fun j hj hn => by omega, fun _ => ?_⟩
      rw [Nat.add_sub_cancel]
      omega
theorem x_first (h : x_tot c) : ∀ (n q : Nat), q ≤ n → c q p = 0 → ∃ q0, q0 ≤ q ∧ c q0 p = 0 ∧ ∀ q', q' < q0 → c q' q0 ≠ 0
  | 0, q, hq, hc => ⟨q, Nat.le_refl _, hc, fun q' h' => by omega⟩
  | n + 1, q, hq, hc => by
    by_cases w : ∃ q', q' < q ∧ c q' q = 0
    · obtain ⟨q', w1, w2⟩ := w
      obtain ⟨q0, y1, y2, y3⟩ := x_first h n q' (by omega) (h.zz w2 hc)
      exact ⟨q0, by omega, y2, y3⟩
    · exact ⟨q, Nat.le_refl _, hc, fun q' h' h2 => w ⟨q', h', h2⟩⟩
theorem x_getD_get {l : List Nat} {i : Nat} (h : i < l.length) : l.getD i 0 = l[i] := by
  rw [List.getD_eq_getElem?_getD, List.getElem?_eq_getElem h]
  rfl
/-- the sorted row: sorted, and what stands in it -/
theorem z_is_sp (h : x_tot c) : ∀ n, (z_is c u n).Pairwise (x_lt c) ∧ (∀ p, p ∈ z_is c u n ↔ p < n ∧ (u = true → ∀ q, q < p → c q p ≠ 0))
  | 0 => ⟨List.Pairwise.nil, fun p => ⟨fun w => (by cases w), fun w => (by omega)⟩⟩
  | n + 1 => by
    obtain ⟨hP, hM⟩ := z_is_sp h n
    obtain ⟨k1, k2, k3⟩ := z_ip_sp (c := c) (p := n) (l := z_is c u n) (z_is c u n).length
    unfold z_is z_i1
    generalize z_is c u n = l at hP hM k1 k2 k3
    generalize z_ip c n l l.length = k at k1 k2 k3
    by_cases q : u = true ∧ 0 < k ∧ c (l.getD (k - 1) 0) n = 0
    · rw [if_pos q]
      refine ⟨hP, fun p => ⟨fun w => ?_, fun w => ?_⟩⟩
      · have := (hM p).1 w
        exact ⟨by omega, this.2⟩
      · refine (hM p).2 ⟨?_, w.2⟩
        by_cases y : p = n
        · have hm : l.getD (k - 1) 0 ∈ l := by
            rw [x_getD_get (show k - 1 < l.length by omega)]
            exact List.getElem_mem _
          have := (hM _).1 hm
          rw [y] at w
          exact absurd q.2.2 (w.2 q.1 _ this.1)
        · omega
    · rw [if_neg q]
      have hlow : ∀ a ∈ l.take k, c a n ≤ 0 ∧ a < n := by
        intro a ha
        obtain ⟨i, hi, he⟩ := List.mem_iff_getElem.1 ha
        rw [List.length_take] at hi
        rw [List.getElem_take] at he
        have hal : a ∈ l := List.mem_of_mem_take ha
        refine ⟨?_, ((hM a).1 hal).1⟩
        have hk := k3 (by omega)
        rw [x_getD_get (show k - 1 < l.length by omega)] at hk
        by_cases y : i = k - 1
        · subst y
          rw [he] at hk
          exact hk
        · have := (List.pairwise_iff_getElem.1 hP) i (k - 1) (by omega) (by omega) (by omega)
          rw [he] at this
          exact h.2 _ _ _ (x_lt_le this) hk
      have hhigh : ∀ b ∈ l.drop k, 0 < c b n := by
        intro a ha
        obtain ⟨i, hi, he⟩ := List.mem_iff_getElem.1 ha
        rw [List.length_drop] at hi
        rw [List.getElem_drop] at he
        have := k2 (k + i) (by omega) (by omega)
        rw [x_getD_get (show k + i < l.length by omega), he] at this
        exact this
      have hsp : l.take k ++ l.drop k = l := List.take_append_drop k l
      have hP2 := hP
      rw [← hsp, List.pairwise_append] at hP2
      refine ⟨?_, fun p => ⟨fun w => ?_, fun w => ?_⟩⟩
      · rw [List.pairwise_append, List.pairwise_cons]
        refine ⟨hP2.1, ⟨fun b hb => ?_, hP2.2.1⟩, fun a ha b hb => ?_⟩
        · have h1 := hhigh b hb
          have h2 := h.1 b n
          exact .inl (by omega)
        · rcases List.mem_cons.1 hb with y | y
          · subst y
            have := hlow a ha
            unfold x_lt
            omega
          · exact hP2.2.2 a ha b y
      · rcases List.mem_append.1 w with y | y
        · have := (hM p).1 (List.mem_of_mem_take y)
          exact ⟨by omega, this.2⟩
        · rcases List.mem_cons.1 y with y | y
          · subst y
            refine ⟨by omega, fun hu q' hq' h0 => ?_⟩
            obtain ⟨q0, y1, y2, y3⟩ := x_first h q' q' (Nat.le_refl _) h0
            have hq0 : q0 ∈ l := (hM q0).2 ⟨by omega, fun _ => y3⟩
            rw [← hsp] at hq0
            rcases List.mem_append.1 hq0 with z | z
            · obtain ⟨i, hi, he⟩ := List.mem_iff_getElem.1 z
              rw [List.length_take] at hi
              rw [List.getElem_take] at he
              have hk := k3 (by omega)
              have hkl : k - 1 < l.length := by omega
              by_cases yi : i = k - 1
              · have : l.getD (k - 1) 0 = q0 := by
                  subst yi
                  rw [x_getD_get hkl]
                  exact he
                rw [this] at q
                exact q ⟨hu, by omega, y2⟩
              · have hlt := (List.pairwise_iff_getElem.1 hP) i (k - 1) (by omega) hkl (by omega)
                rw [he] at hlt
                rw [x_getD_get hkl] at hk
                have hm : l[k - 1] ∈ l := List.getElem_mem _
                have hf := ((hM _).1 hm).2 hu
                have hneg : c q0 l[k - 1] < 0 := by
                  rcases hlt with g | g
                  · exact g
                  · exact absurd g.1 (hf q0 g.2)
                have := h.lz hneg hk
                omega
            · have := hhigh q0 z
              omega
          · have := (hM p).1 (List.mem_of_mem_drop y)
            exact ⟨by omega, this.2⟩
      · by_cases y : p = n
        · subst y
          exact List.mem_append_right _ (by simp)
        · have hpl : p ∈ l := (hM p).2 ⟨by omega, w.2⟩
          rw [← hsp] at hpl
          rcases List.mem_append.1 hpl with z | z
          · exact List.mem_append_left _ z
          · exact List.mem_append_right _ (List.mem_cons_of_mem _ z)
/-- a block that is sorted -/
def x_bo (c : Nat → Nat → Int) (f : Nat → Int) (lo hi : Nat) : Prop := (∀ i, lo ≤ i → i < hi → ∃ p : Nat, f i = p ∧ lo ≤ p ∧ p < hi) ∧ (∀ p : Nat, lo ≤ p → p < hi → ∃ i, lo ≤ i ∧ i < hi ∧ f i = p) ∧ (∀ i j, lo ≤ i → i < j → j < hi → x_lt c (f i).toNat (f j).toNat)
theorem x_bo.of {f g : Nat → Int} {lo hi : Nat} (h : x_bo c f lo hi) (hg : ∀ i, lo ≤ i → i < hi → g i = f i) : x_bo c g lo hi := by
  refine ⟨fun i h1 h2 => ?_, fun p h1 h2 => ?_, fun i j h1 h2 h3 => ?_⟩
  · rw [hg i h1 h2]
    exact h.1 i h1 h2
  · obtain ⟨i, y1, y2, y3⟩ := h.2.1 p h1 h2
    exact ⟨i, y1, y2, by rw [hg i y1 y2]; exact y3⟩
  · rw [hg i h1 (by omega), hg j (by omega) h3]
    exact h.2.2 i j h1 h2 h3
theorem x_bo1 {f : Nat → Int} {i : Nat} (h : f i = i) : x_bo c f i (i + 1) := by
  refine ⟨fun j h1 h2 => ⟨i, ?_, by omega, by omega⟩, fun p h1 h2 => ⟨i, by omega, by omega, ?_⟩, fun a b h1 h2 h3 => by omega⟩
  · rw [show j = i by omega]
    exact h
  · rw [h]
    omega
/-- two blocks being merged: of f, up to i and j, into g, up to k -/
def x_mi (c : Nat → Nat → Int) (f g : Nat → Int) (lo mi hi i j k : Nat) : Prop := (lo ≤ i ∧ i ≤ mi ∧ mi ≤ j ∧ j ≤ hi ∧ k + mi = i + j) ∧ (∀ y, lo ≤ y → y < k → ∃ x, g y = f x ∧ (lo ≤ x ∧ x < i ∨ mi ≤ x ∧ x < j)) ∧ (∀ x, lo ≤ x ∧ x < i ∨ mi ≤ x ∧ x < j → ∃ y, lo ≤ y ∧ y < k ∧ g y = f x) ∧ (∀ y y', lo ≤ y → y < y' → y' < k → x_lt c (g y).toNat (g y').toNat) ∧ (∀ y x, lo ≤ y → y < k → i ≤ x ∧ x < mi ∨ j ≤ x ∧ x < hi → x_lt c (g y).toNat (f x).toNat)
theorem x_mi0 {f g : Nat → Int} {lo mi hi : Nat} (h1 : lo ≤ mi) (h2 : mi ≤ hi) : x_mi c f g lo mi hi lo mi lo := by
  refine ⟨by omega, fun y _ _ => by omega, fun x _ => by omega, fun y y' _ _ _ => by omega, fun y x _ _ _ => by omega⟩
theorem x_mi9 {f g : Nat → Int} {lo mi hi : Nat} (hf1 : x_bo c f lo mi) (hf2 : x_bo c f mi hi) (h : x_mi c f g lo mi hi mi hi hi) : x_bo c g lo hi := by
  obtain ⟨a1, a2, a3, a4, a5⟩ := h
  refine ⟨fun y h1 h2 => ?_, fun p h1 h2 => ?_, a4⟩
  · obtain ⟨x, e, w⟩ := a2 y h1 h2
    rw [e]
    rcases w with w | w
    · obtain ⟨p, y1, y2, y3⟩ := hf1.1 x w.1 w.2
      exact ⟨p, y1, by omega, by omega⟩
    · obtain ⟨p, y1, y2, y3⟩ := hf2.1 x w.1 w.2
      exact ⟨p, y1, by omega, by omega⟩
  · by_cases w : p < mi
    · obtain ⟨x, y1, y2, y3⟩ := hf1.2.1 p h1 w
      obtain ⟨y, z1, z2, z3⟩ := a3 x (.inl ⟨y1, y2⟩)
      exact ⟨y, z1, z2, z3.trans y3⟩
    · obtain ⟨x, y1, y2, y3⟩ := hf2.2.1 p (by omega) h2
      obtain ⟨y, z1, z2, z3⟩ := a3 x (.inr ⟨y1, y2⟩)
      exact ⟨y, z1, z2, z3.trans y3⟩
/-- one taken: at x0, before all that are left -/
theorem x_mi.step {f g g' : Nat → Int} {lo mi hi i j k i' j' x0 : Nat} (h : x_mi c f g lo mi hi i j k) (hg : g' k = f x0) (hg2 : ∀ y, y ≠ k → g' y = g y) (hx : x0 = i ∧ i < mi ∧ i' = i + 1 ∧ j' = j ∨ x0 = j ∧ j < hi ∧ i' = i ∧ j' = j + 1) (hlt : ∀ x, i' ≤ x ∧ x < mi ∨ j' ≤ x ∧ x < hi → x_lt c (f x0).toNat (f x).toNat) : x_mi c f g' lo mi hi i' j' (k + 1) := by
  obtain ⟨a1, a2, a3, a4, a5⟩ := h
  refine ⟨by omega, fun y h1 h2 => ?_, fun x w => ?_, fun y y' h1 h2 h3 => ?_, fun y x h1 h2 w => ?_⟩
  · by_cases q : y = k
    · subst q
      exact ⟨x0, hg, by omega⟩
    · obtain ⟨x, e, w⟩ := a2 y h1 (by omega)
      exact ⟨x, (hg2 y q).trans e, by omega⟩
  · by_cases q : x = x0
    · subst q
      exact ⟨k, by omega, by omega, hg⟩
    · obtain ⟨y, z1, z2, z3⟩ := a3 x (by omega)
      exact ⟨y, z1, by omega, (hg2 y (by omega)).trans z3⟩
  · by_cases q : y' = k
    · subst q
      rw [hg, hg2 y (by omega)]
      exact a5 y x0 h1 (by omega) (by omega)
    · rw [hg2 y (by omega), hg2 y' q]
      exact a4 y y' h1 h2 (by omega)
  · by_cases q : y = k
    · subst q
      rw [hg]
      exact hlt x w
    · rw [hg2 y q]
      exact a5 y x h1 (by omega) (by omega)
/-- those that are given: all, or the first of those that are alike -/
def z_kp (c : Nat → Nat → Int) (u : Bool) (f : Nat → Int) : Nat → Nat → List Nat
  | 0, _ => []
  | k + 1, i => (if u = true ∧ 0 < i ∧ c (f (i - 1)).toNat (f i).toNat = 0 then [] else [(f i).toNat]) ++ z_kp c u f k (i + 1)
theorem z_kp_mem {f : Nat → Int} : ∀ (k i p : Nat), p ∈ z_kp c u f k i ↔ ∃ x, i ≤ x ∧ x < i + k ∧ p = (f x).toNat ∧ ¬ (u = true ∧ 0 < x ∧ c (f (x - 1)).toNat (f x).toNat = 0)
  | 0, i, p => ⟨fun w => (by cases w), fun ⟨x, h1, h2, _⟩ => (by omega)⟩
  | k + 1, i, p => by
    rw [z_kp, List.mem_append, z_kp_mem k (i + 1) p]
    constructor
    · rintro (w | ⟨x, h1, h2, h3, h4⟩)
      · split at w
        · cases w
        next q => exact ⟨i, Nat.le_refl _, by omega, List.mem_singleton.1 w, q⟩
      · exact ⟨x, by omega, by omega, h3, h4⟩
    · rintro ⟨x, h1, h2, h3, h4⟩
      by_cases q : x = i
      · subst q
        rw [if_neg h4]
        exact .inl (by simp [h3])
      · exact .inr ⟨x, by omega, by omega, h3, h4⟩
theorem z_kp_pw {f : Nat → Int} {n : Nat} (hf : x_bo c f 0 n) : ∀ (k i : Nat), i + k ≤ n → (z_kp c u f k i).Pairwise (x_lt c)
  | 0, i, h => List.Pairwise.nil
  | k + 1, i, h => by
    rw [z_kp, List.pairwise_append]
    refine ⟨?_, z_kp_pw hf k (i + 1) (by omega), fun a ha b hb => ?_⟩
    · split
      · exact List.Pairwise.nil
      · exact List.pairwise_singleton _ _
    · obtain ⟨x, h1, h2, h3, h4⟩ := (z_kp_mem k (i + 1) b).1 hb
      split at ha
      · cases ha
      · rw [List.mem_singleton.1 ha, h3]
        exact hf.2.2 i x (Nat.zero_le _) (by omega) (by omega)
theorem z_kp_is {f : Nat → Int} {n : Nat} (h : x_tot c) (hf : x_bo c f 0 n) : z_kp c u f n 0 = z_is c u n := by
  refine x_uni h _ _ (z_kp_pw hf n 0 (by omega)) (z_is_sp h n).1 (fun p => ?_)
  rw [z_kp_mem, (z_is_sp h n).2 p]
  constructor
  · rintro ⟨x, h1, h2, h3, h4⟩
    obtain ⟨p', e1, e2, e3⟩ := hf.1 x h1 (by omega)
    have hp : p = p' := by rw [h3, e1]; rfl
    refine ⟨by omega, fun hu q hq h0 => ?_⟩
    obtain ⟨y, g1, g2, g3⟩ := hf.2.1 q (Nat.zero_le _) (by omega)
    have fx : (f x).toNat = p := h3.symm
    have fy : (f y).toNat = q := by rw [g3]; rfl
    -- the earlier one stands before
    have hyx : y < x := by
      rcases Nat.lt_trichotomy y x with w | w | w
      · exact w
      · subst w; omega
      · have := hf.2.2 x y (Nat.zero_le _) w (by omega)
        rw [fx, fy] at this
        have b := h.1 q p
        unfold x_lt at this
        omega
    apply h4
    refine ⟨hu, by omega, ?_⟩
    rw [fx]
    have l1 : c (f (x - 1)).toNat p ≤ 0 := by
      have := hf.2.2 (x - 1) x (Nat.zero_le _) (by omega) (by omega)
      rw [fx] at this
      exact x_lt_le this
    by_cases w : c (f (x - 1)).toNat p = 0
    · exact w
    · exfalso
      have l2 : c q (f (x - 1)).toNat ≤ 0 := by
        by_cases yx : y = x - 1
        · rw [← yx, fy]
          have := h.1 q q
          omega
        · have := hf.2.2 y (x - 1) (Nat.zero_le _) (by omega) (by omega)
          rw [fy] at this
          exact x_lt_le this
      have := h.zl l2 (show c (f (x - 1)).toNat p < 0 by omega)
      omega
  · rintro ⟨h1, h2⟩
    obtain ⟨x, g1, g2, g3⟩ := hf.2.1 p (Nat.zero_le _) h1
    have fx : (f x).toNat = p := by rw [g3]; rfl
    refine ⟨x, g1, by omega, fx.symm, fun w => ?_⟩
    obtain ⟨w1, w2, w3⟩ := w
    have hlt := hf.2.2 (x - 1) x (Nat.zero_le _) (by omega) (by omega)
    rw [fx] at hlt w3
    rcases hlt with y | y
    · omega
    · exact h2 w1 _ y.2 w3
end OR
