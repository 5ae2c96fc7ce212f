/-! reference: words for a tick: written by wip/whole/m19.py -/
theorem IV_.cong {s s' : Sg_} (h : IV_ s) (hs : ∀ r, 0 < r → r < 13 → s' r = s r) : IV_ s' := by
  unfold IV_ at h ⊢
  rw [hs 5 (by decide) (by decide), hs 2 (by decide) (by decide), hs 9 (by decide) (by decide), hs 7 (by decide) (by decide), hs 8 (by decide) (by decide), hs 3 (by decide) (by decide), hs 4 (by decide) (by decide)]
  exact h
theorem RT_.cong {x x' : Nat → Int32} {s s' : Sg_} (h : RT_ x s) (hx : ∀ q, (q < 3328 ∨ (3464 ≤ q ∧ q < 3528) ∨ 3593 ≤ q) → x' q = x q) (hs : ∀ r, ¬ (13 ≤ r ∧ r ≤ 16) → s' r = s r) : RT_ x' s' := by
  refine ⟨h.iv.cong (fun r h1 h2 => hs r (by omega)), ?_, ?_, ?_, ?_, ?_, ?_, ?_⟩
  · intro k w hk hw; rw [hx _ (by omega), hs (2 + w) (by omega)]; exact h.lk k w hk hw
  · intro k hk; rw [hx _ (by omega), hs 9 (by omega)]; exact h.pr k hk
  · intro k w hk hw; rw [hx _ (by omega), hs (7 + w) (by omega)]; exact h.en k w hk hw
  · intro k hk; rw [hx _ (by omega), hs 17 (by omega)]; exact h.ck k hk
  · rw [hx _ (by omega), hs 0 (by omega)]; exact h.tm
  · rw [hx _ (by omega), hs 0 (by omega)]; exact h.se
  · rw [hx _ (by omega), hs 1 (by omega)]; exact h.lc
theorem t1_o {s : Sg_} {r : Nat} (h : ¬ r = 0) : t1_ s r = s r := by funext i; unfold t1_; rw [if_neg (fun z => h z.1)]
theorem t1_2 {s : Sg_} {i : Nat} (h : ¬ i = 1) : t1_ s 0 i = s 0 i := by unfold t1_; rw [if_neg (fun z => h z.2)]
theorem t1_1 {s : Sg_} : t1_ s 0 1 = s 0 1 + nI 1 := rfl
theorem RT_.t1 {x : Nat → Int32} {s : Sg_} (h : RT_ x s) {v : Int32} (hv : v = s 0 1 + nI 1) : RT_ (upd x 3593 v) (t1_ s) := by
  refine ⟨h.iv.cong (fun r h1 h2 => t1_o (by omega)), ?_, ?_, ?_, ?_, ?_, ?_, ?_⟩
  · intro k w hk hw; rw [pk_un (by omega), t1_o (by omega)]; exact h.lk k w hk hw
  · intro k hk; rw [pk_un (by omega), t1_o (by omega)]; exact h.pr k hk
  · intro k w hk hw; rw [pk_un (by omega), t1_o (by omega)]; exact h.en k w hk hw
  · intro k hk; rw [pk_un (by omega), t1_o (by omega)]; exact h.ck k hk
  · rw [pk_us, hv]; rfl
  · rw [pk_un (by omega), t1_2 (by omega)]; exact h.se
  · rw [pk_un (by omega), t1_o (by omega)]; exact h.lc
theorem RS_.cong {x x' : Nat → Int32} {s s' : Sg_} {n : Nat} (h : RS_ x s n) (hn8 : n ≤ 8) (hx : ∀ q, 3328 ≤ q → q < 3464 → x' q = x q) (h13 : ∀ k, k < 64 → s' 13 k = s 13 k) (h14 : ∀ k, k < 64 → s' 14 k = s 14 k) : RS_ x' s' n := by
  intro a ha
  rcases h a ha with ⟨h0, h2⟩ | ⟨h1, h2⟩
  · exact Or.inl ⟨by rw [hx _ (by omega) (by omega)]; exact h0, fun b hb => by rw [h13 _ (by omega)]; exact h2 b hb⟩
  · exact Or.inr ⟨by rw [hx _ (by omega) (by omega)]; exact h1, fun b hb => by rw [hx _ (by omega) (by omega), hx _ (by omega) (by omega), h13 _ (by omega), h14 _ (by omega)]; exact h2 b hb⟩
theorem RJ_.cong {x x' : Nat → Int32} {s s' : Sg_} {m : Nat} (h : RJ_ x s m) (hx : ∀ q, 3528 ≤ q → q < 3593 → x' q = x q) (h15 : s' 15 = s 15) (h16 : s' 16 = s 16) : RJ_ x' s' m := by
  have hl := js_le m
  refine ⟨by rw [h15]; exact h.ct, by rw [hx _ (by omega) (by omega)]; exact h.sz, fun i w hi hw => ?_⟩
  rw [hx _ (by omega) (by omega), h16]
  exact h.rw i w hi hw
theorem an_in {p : Nat → Bool} {b : Nat} (hp : p b = true) : ∀ {n : Nat}, b < n → an_ p n = true
  | 0, h => absurd h (by omega)
  | n + 1, h => by
    rw [an_]
    by_cases e : b = n
    · rw [← e, hp, Bool.or_true]
    · rw [an_in hp (n := n) (by omega), Bool.true_or]
theorem c_X8_isNew {PL : List (Nat × Nat)} {V : Mm_} {i n : Nat} {s : Sg_} (hi : i < n) (hm : V 0 33 0 = nI n) (hn8 : n ≤ 8) (hS : RS_ (V 0 34) s n) (hd : ¬ V 0 40 (i * 8) = -2) : Cp_ PL mX8_isNew [vR 0 33, vI (nI i)] V (b2 (df_ s (V 0 40) (V 0 41) i n)) := by
  rcases hS i hi with ⟨h0, h2⟩ | ⟨h1, h2⟩
  · have hz : ¬ s 13 (i * 8 + 0) = V 0 40 (i * 8 + 0) := fun z => hd (by rw [h2 0 (by omega)] at z; exact z.symm)
    have e : df_ s (V 0 40) (V 0 41) i n = true := an_in (b := 0) (decide_eq_true (Or.inl hz)) (by omega)
    rw [e]
    exact c_X8_isNew0 hi hm hn8 h0
  · exact c_X8_isNew1 hi hm hn8 h1 h2
theorem kq_row {f dl du : Nat → Int32} {n : Nat} {s : Sg_} (hn8 : n ≤ 8) : ∀ {j : Nat} {r k : Nat}, j * 8 ≤ k → kq_ f dl du n j s r k = s r k
  | 0, _, _, _ => rfl
  | j + 1, r, k, h => by
    have ih := kq_row (f := f) (dl := dl) (du := du) (s := s) hn8 (j := j) (r := r) (k := k) (by omega)
    show (if sp_ f (kq_ f dl du n j s) dl du n j = true then kp_ (kq_ f dl du n j s) dl du j n else kq_ f dl du n j s) r k = _
    split
    · unfold kp_
      rw [if_neg (by omega)]
      exact ih
    · exact ih
theorem df_eq {s s' : Sg_} {dl du dl' du' : Nat → Int32} {a n : Nat} (h : ∀ b, b < n → s 13 (a * 8 + b) = s' 13 (a * 8 + b) ∧ s 14 (a * 8 + b) = s' 14 (a * 8 + b) ∧ dl (a * 8 + b) = dl' (a * 8 + b) ∧ du (a * 8 + b) = du' (a * 8 + b)) : df_ s dl du a n = df_ s' dl' du' a n := by
  unfold df_
  have : ∀ m, m ≤ n → an_ (fun b => decide (¬ s 13 (a * 8 + b) = dl (a * 8 + b) ∨ ¬ s 14 (a * 8 + b) = du (a * 8 + b))) m = an_ (fun b => decide (¬ s' 13 (a * 8 + b) = dl' (a * 8 + b) ∨ ¬ s' 14 (a * 8 + b) = du' (a * 8 + b))) m := by
    intro m
    induction m with
    | zero => intro _; rfl
    | succ m ih =>
      intro hm
      obtain ⟨h1, h2, h3, h4⟩ := h m (by omega)
      rw [an_, an_, ih (by omega)]
      simp only [h1, h2, h3, h4]
  exact this n (Nat.le_refl _)
theorem sq_eq {f dl du : Nat → Int32} {n a : Nat} {s1 : Sg_} (hn8 : n ≤ 8) (ha : a < n) (h : ag_ n dl (Dl_ s1 (f 6) n)) (h2 : ag_ n du (Du_ s1 (f 6) n)) : sq_ f n s1 a = (due_ (f 0) (s1 0 1) a || (decide (f 7 = nI 1) && df_ s1 dl du a n)) := by
  unfold sq_ sp_
  rw [kq_low (by decide) (by decide), df_eq (s' := s1) (dl' := dl) (du' := du) (fun b hb => ⟨kq_row hn8 (by omega), kq_row hn8 (by omega), (h a b ha hb).symm, (h2 a b ha hb).symm⟩)]
theorem RS_.kp {x : Nat → Int32} {s : Sg_} {dl du : Nat → Int32} {a n : Nat} (h : RS_ x s n) (hn8 : n ≤ 8) (ha : a < n) : RS_ (ks_ x dl du a n) (kp_ s dl du a n) n := by
  intro c hc
  by_cases e : c = a
  · subst e
    refine Or.inr ⟨by unfold ks_; rw [if_pos rfl], fun b hb => ⟨?_, ?_⟩⟩
    · unfold ks_ kp_
      rw [if_neg (by omega), if_pos (by omega), if_pos (by omega), if_pos rfl]
      exact congrArg dl (by omega)
    · unfold ks_ kp_
      rw [if_neg (by omega), if_neg (by omega), if_pos (by omega), if_pos (by omega), if_neg (by decide), if_pos rfl]
      exact congrArg du (by omega)
  · have ek : ∀ q, 3328 + 17 * c ≤ q → q < 3328 + 17 * c + 17 → ks_ x dl du a n q = x q := fun q h1 h2 => by
      unfold ks_
      rw [if_neg (by omega), if_neg (by omega), if_neg (by omega)]
    have es : ∀ r b, b < n → kp_ s dl du a n r (c * 8 + b) = s r (c * 8 + b) := fun r b hb => by unfold kp_; rw [if_neg (by omega)]
    rcases h c hc with ⟨h0, h2⟩ | ⟨h1, h2⟩
    · exact Or.inl ⟨by rw [ek _ (by omega) (by omega)]; exact h0, fun b hb => by rw [es 13 b hb]; exact h2 b hb⟩
    · exact Or.inr ⟨by rw [ek _ (by omega) (by omega)]; exact h1, fun b hb => by rw [ek _ (by omega) (by omega), ek _ (by omega) (by omega), es 13 b hb, es 14 b hb]; exact h2 b hb⟩
theorem ks_out {x dl du : Nat → Int32} {a n q : Nat} (ha : a < 8) (hn8 : n ≤ 8) (h : q < 3328 ∨ 3464 ≤ q) : ks_ x dl du a n q = x q := by
  unfold ks_
  rw [if_neg (by omega), if_neg (by omega), if_neg (by omega)]
theorem Ch_at {rule inf : Int32} {s : Sg_} {n a b : Nat} (hb : b < 8) : Ch_ rule s inf n (a * 8 + b) = ch_ rule s inf n a b := by
  unfold Ch_
  rw [show (a * 8 + b) / 8 = a by omega, show (a * 8 + b) % 8 = b by omega]
theorem Dl_at {inf : Int32} {s : Sg_} {n a b : Nat} (hb : b < 8) : Dl_ s inf n (a * 8 + b) = dl_ s inf n a b := by
  unfold Dl_
  rw [show (a * 8 + b) / 8 = a by omega, show (a * 8 + b) % 8 = b by omega]
theorem Du_at {inf : Int32} {s : Sg_} {n a b : Nat} (hb : b < 8) : Du_ s inf n (a * 8 + b) = du_ s inf n a b := by
  unfold Du_
  rw [show (a * 8 + b) / 8 = a by omega, show (a * 8 + b) % 8 = b by omega]
theorem ch_cong {rule inf : Int32} {s s' : Sg_} {n a b : Nat} (h : ∀ r, r < 15 → s' r = s r) : ch_ rule s' inf n a b = ch_ rule s inf n a b := by
  have hu : us_ s' inf a b = us_ s inf a b := by
    funext c
    unfold us_
    rw [h 5 (by decide), h 9 (by decide), h 0 (by decide), h 8 (by decide), h 11 (by decide)]
  have hl : ul_ s' inf n a b = ul_ s inf n a b := by unfold ul_; rw [hu]
  have h7 : pb_ s' inf n 7 a b = pb_ s inf n 7 a b := by unfold pb_; rw [hl, h 7 (by decide)]
  have h8 : pb_ s' inf n 8 a b = pb_ s inf n 8 a b := by unfold pb_; rw [hl, h 8 (by decide)]
  unfold ch_
  rw [hl, h7, h8]
theorem t3i_s {f : Nat → Int32} {n j r i : Nat} {s1 : Sg_} (h : r = 13 ∨ r = 14) : t3i f n s1 j r i = t2_ f n s1 r i := by
  unfold t3i
  exact it_low (fun a s => by split <;> first | exact sk_low (by omega) (by omega) n | rfl) j _
