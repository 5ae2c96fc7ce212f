/-! reference: a tick: written by wip/whole/m20.py -/
theorem t3i_1 {f : Nat → Int32} {n i : Nat} {s1 : Sg_} : t3i f n s1 (i + 1) = if sq_ f n s1 i = true then sk_ f (Dl_ s1 (f 6) n) (Du_ s1 (f 6) n) (Ch_ (f 2) s1 (f 6) n) n i (t3i f n s1 i) else t3i f n s1 i := rfl
theorem kq_1 {f dl du : Nat → Int32} {n i : Nat} {s : Sg_} : kq_ f dl du n (i + 1) s = if sp_ f (kq_ f dl du n i s) dl du n i = true then kp_ (kq_ f dl du n i s) dl du i n else kq_ f dl du n i s := rfl
/-- while changes are noted -/
def K3_ (V3 V4 : Mm_) (m : Nat) (p : Sg_ × Nat) : Prop := (∀ g r, ¬ (g = 0 ∧ (r = 33 ∨ r = 34)) → V4 g r = V3 g r) ∧ (∀ k, ¬ k = 14 → V4 0 33 k = V3 0 33 k) ∧ V4 0 33 14 = nI p.2 ∧ RT_ (V4 0 34) p.1 ∧ RJ_ (V4 0 34) p.1 (m + p.2) ∧ (∀ q, 3328 ≤ q → q < 3464 → V4 0 34 q = V3 0 34 q)
theorem K3_n1 {V3 V5 V6 : Mm_} {CH : Nat → Int32} {m a b idx : Nat} {p : Sg_ × Nat} {c t : Int32} (ha : a < 8) (hb : b < 8) (h : K3_ V3 V5 m p) (hc : c = CH (a * 8 + b)) (hidx : idx = 3464 + (a * 8 + b)) (hne : ¬ CH (a * 8 + b) = p.1 17 (a * 8 + b)) (ht : t = p.1 0 1)
    (h2 : no_ (m_set V5 0 34 idx c) V6 (jn_ (fun r i => if r = 17 ∧ i = a * 8 + b then CH (a * 8 + b) else p.1 r i) (m + p.2) t (nI a) (nI b) c) (m + p.2) p.2) : K3_ V3 V6 m (n1_ CH m a b p) := by
  subst hc hidx ht
  obtain ⟨k1, k2, k3, k4, k5, k6⟩ := h
  obtain ⟨n1, n2, n3, n4, n5⟩ := h2
  have es : ∀ r, ¬ r = 17 → (fun r i => if r = 17 ∧ i = a * 8 + b then CH (a * 8 + b) else p.1 r i : Sg_) r = p.1 r := fun r hr => by
    funext i
    show (if _ then _ else _) = _
    rw [if_neg (fun z => hr z.1)]
  have hA : RT_ (m_set V5 0 34 (3464 + (a * 8 + b)) (CH (a * 8 + b)) 0 34) (fun r i => if r = 17 ∧ i = a * 8 + b then CH (a * 8 + b) else p.1 r i) := by
    rw [m_same]
    refine ⟨k4.iv.cong (fun r h1 h2 => es r (by omega)), ?_, ?_, ?_, ?_, ?_, ?_, ?_⟩
    · intro k w hk hw; rw [pk_un (by omega), es (2 + w) (by omega)]; exact k4.lk k w hk hw
    · intro k hk; rw [pk_un (by omega), es 9 (by omega)]; exact k4.pr k hk
    · intro k w hk hw; rw [pk_un (by omega), es (7 + w) (by omega)]; exact k4.en k w hk hw
    · intro k hk
      by_cases e : k = a * 8 + b
      · rw [e, pk_us]; exact (if_pos ⟨rfl, rfl⟩).symm
      · rw [pk_un (by omega)]; exact (k4.ck k hk).trans (if_neg (fun z => e z.2)).symm
    · rw [pk_un (by omega), es 0 (by omega)]; exact k4.tm
    · rw [pk_un (by omega), es 0 (by omega)]; exact k4.se
    · rw [pk_un (by omega), es 1 (by omega)]; exact k4.lc
  have en : n1_ CH m a b p = (jn_ (fun r i => if r = 17 ∧ i = a * 8 + b then CH (a * 8 + b) else p.1 r i) (m + p.2) (p.1 0 1) (nI a) (nI b) (CH (a * 8 + b)), p.2 + 1) := by unfold n1_; rw [if_neg hne]
  rw [en]
  refine ⟨fun g r hg => ?_, fun k hk => ?_, n3, hA.cong (fun q hq => n4 q (by omega)) (fun r hr => ?_), ?_, fun q h1 h2 => ?_⟩
  · rw [n1 g r hg, m_ne (by omega)]; exact k1 g r hg
  · rw [n2 k hk, m_ne (by omega)]; exact k2 k hk
  · funext i
    simp only [jn_]
    rw [if_neg (show ¬ (r = 16 ∧ i = (m + p.2) % 16 * 4) by omega), if_neg (show ¬ (r = 16 ∧ i = (m + p.2) % 16 * 4 + 1) by omega), if_neg (show ¬ (r = 16 ∧ i = (m + p.2) % 16 * 4 + 2) by omega), if_neg (show ¬ (r = 16 ∧ i = (m + p.2) % 16 * 4 + 3) by omega), if_neg (show ¬ (r = 15 ∧ i = 1) by omega)]
  · rw [← Nat.add_assoc]; exact n5
  · rw [n4 q (by omega), m_i (by omega)]; exact k6 q h1 h2
/-- what a tick of the reference leaves -/
def tc_ (V V' : Mm_) (s : Sg_) (m n : Nat) : Prop := (∀ g r, ¬ (g = 0 ∧ (r = 33 ∨ r = 34 ∨ (40 ≤ r ∧ r ≤ 43))) → V' g r = V g r) ∧ (∀ k, ¬ k = 14 → V' 0 33 k = V 0 33 k) ∧ V' 0 33 14 = nI (tq_ (V 0 37) n m s).2 ∧ RT_ (V' 0 34) (tq_ (V 0 37) n m s).1 ∧ RS_ (V' 0 34) (tq_ (V 0 37) n m s).1 n ∧ RJ_ (V' 0 34) (tq_ (V 0 37) n m s).1 (m + (tq_ (V 0 37) n m s).2)
theorem nt_s {CH : Nat → Int32} {m n r i : Nat} {p : Sg_ × Nat} (h : r < 15) : ∀ j, (nt_ CH m n j p).1 r i = p.1 r i := fun j => nt_low (Or.inl h)

set_option maxRecDepth 100000 in
set_option maxHeartbeats 4000000 in
theorem c_X8_tick {PL : List (Nat × Nat)} {n m : Nat} {V : Mm_} {s : Sg_} (h : RT_ (V 0 34) s) (hS : RS_ (V 0 34) s n) (hJ : RJ_ (V 0 34) s m) (hm : V 0 33 0 = nI n) (hn1 : 2 ≤ n) (hn8 : n ≤ 8) (hse : SE_ (V 0 37)) (tp0 : 0 < s 0 1 + nI 1) (tp1 : 0 < s 0 1 + nI 1 + V 0 37 1) (hm9 : m < 2 ^ 29) : Cv_ PL mX8_tick [vR 0 33] V (fun V' => tc_ V V' s m n) := by
  refine Ca_.of mv_X8_tick.2.2.2.2.2.2 3 (lo := [some (vR 0 33), none, none, none]) rfl (Nat.le_of_ble_eq_true rfl) ?_
  refine r_aload_n (pc2 := 1) dX8_tick_0 rfl rfl ?_
  refine r_getR (pc2 := 4) dX8_tick_1 fl_X8_13 (by decide) rfl rfl rfl ?_
  refine r_sipush (pc2 := 7) (nI 3593) dX8_tick_4 (by decide) rfl ?_
  refine r_dup2 (pc2 := 8) dX8_tick_7 rfl ?_
  refine r_ialde (pc2 := 9) (x := ((s 0 1))) (j := _) (h.tm) dX8_tick_8 (by decide) rfl rfl (rfl) (by show _ < 3596; omega) rfl ?_
  refine r_iconst (pc2 := 10) (nI 1) dX8_tick_9 (by decide) rfl ?_
  refine r_iadd (pc2 := 11) dX8_tick_10 rfl ?_
  refine r_iast (pc2 := 12) (j := _) dX8_tick_11 (by decide) rfl rfl (rfl) (by show _ < 3596; omega) rfl ?_
  refine r_aload_n (pc2 := 13) dX8_tick_12 rfl rfl ?_
  refine r_cv0v (pc2 := 16) dX8_tick_13 st_X8_tick_124 rl_X8_looks (Nat.le_of_ble_eq_true rfl) rfl (c_X8_looks (V := m_set V 0 34 3593 (s 0 1 + nI 1)) (s := t1_ s) (by rw [m_same]; exact h.t1 rfl) (by rw [m_ne (by decide)]; exact hm) hn1 hn8 (by rw [m_ne (by decide)]; exact hse.2.2.1)) (fun V13 h13 => ?_)
  have hF : ∀ g r, ¬ (g = 0 ∧ (r = 34 ∨ (40 ≤ r ∧ r ≤ 42))) → V13 g r = V g r := fun g r hg => by rw [h13.1 g r (by omega), m_ne (by omega)]
  have h34 : V13 0 34 = upd (V 0 34) 3593 (s 0 1 + nI 1) := by rw [h13.1 0 34 (by omega), m_same]
  have hT : RT_ (V13 0 34) (t1_ s) := by rw [h34]; exact h.t1 rfl
  have hS1 : RS_ (V13 0 34) (t1_ s) n := hS.cong hn8 (fun q h1 h2 => by rw [h34, pk_un (by omega)]) (fun k hk => by rw [t1_o (by decide)]) (fun k hk => by rw [t1_o (by decide)])
  have hJ1 : RJ_ (V13 0 34) (t1_ s) m := hJ.cong (fun q h1 h2 => by rw [h34, pk_un (by omega)]) (t1_o (by decide)) (t1_o (by decide))
  have hL : ag_ n (V13 0 40) (Dl_ (t1_ s) (V 0 37 6) n) := fun a b ha hb => by rw [(h13.2 a b ha hb (by omega)).1, Dl_at (by omega), m_ne (by decide)]
  have hU : ag_ n (V13 0 41) (Du_ (t1_ s) (V 0 37 6) n) := fun a b ha hb => by rw [(h13.2 a b ha hb (by omega)).2.1, Du_at (by omega), m_ne (by decide)]
  have hC : ag_ n (V13 0 42) (Ch_ (V 0 37 2) (t1_ s) (V 0 37 6) n) := fun a b ha hb => by rw [(h13.2 a b ha hb (by omega)).2.2, Ch_at (by omega), m_ne (by decide)]
  have hd2 : ∀ a, a < n → ¬ V13 0 40 (a * 8) = -2 := fun a ha z => by
    have e : V13 0 40 (a * 8 + 0) = dl_ (t1_ s) (V 0 37 6) n a 0 := (hL a 0 ha (by omega)).trans (Dl_at (by omega))
    rw [Nat.add_zero, z] at e
    rcases dl_b (inf := V 0 37 6) (a := a) (b := 0) hT.iv (by omega) (by omega) hn8 with ⟨_, q⟩ | ⟨_, q, _⟩
    · rw [q] at e; exact absurd e (by decide)
    · rw [← e] at q; exact absurd q (by decide)
  have hDB0 : ∀ i, i < n → ∀ t, t < n → V13 0 41 (i * 8 + t) = -1 ∨ (0 ≤ V13 0 41 (i * 8 + t) ∧ V13 0 41 (i * 8 + t) ≤ 30000 ∧ 0 ≤ V13 0 40 (i * 8 + t) ∧ V13 0 40 (i * 8 + t) ≤ 30000) := fun i hi t ht => by
    rw [hU i t hi ht, hL i t hi ht, Du_at (by omega), Dl_at (by omega)]
    rcases dl_b (inf := V 0 37 6) (a := i) (b := t) hT.iv (by omega) (by omega) hn8 with ⟨q, _⟩ | ⟨q1, q2, q3⟩
    · exact Or.inl q
    · have q4 := (du_b (inf := V 0 37 6) (a := i) (b := t) hT.iv (by omega) (by omega) hn8).resolve_left q1
      exact Or.inr ⟨q4.1, q4.2, q2, q3⟩
  refine r_iconst (pc2 := 17) (nI 0) dX8_tick_16 (by decide) rfl ?_
  refine r_istore_n (pc2 := 18) dX8_tick_17 (by decide) rfl rfl ?_
  refine Rc_.to (V' := (fun V2 => V2) (V13)) (lo' := (fun (a : Nat) (V2 : Mm_) => [some (vR 0 33), some (vI (nI a)), none, none]) 0 (V13)) (rfl) ⟨rfl, rfl, trivial⟩ ?_
  refine Rc_forI 0 (n) (fun (a : Nat) (V2 : Mm_) => [some (vR 0 33), some (vI (nI a)), none, none]) (fun V2 => V2) (fun a V2 => (∀ g r, ¬ (g = 0 ∧ r = 43) → V2 g r = V13 g r) ∧ ∀ q, q < a → V2 0 43 q = b2 (sq_ (V 0 37) n (t1_ s) q)) (by omega) (fun a V2 ha0 haN hI1 ih18 => ?_) (V13) (⟨fun _ _ _ => rfl, fun q hq => absurd hq (by omega)⟩)
  refine r_iload_n (pc2 := 19) dX8_tick_18 rfl rfl ?_
  refine r_aload_n (pc2 := 20) dX8_tick_19 rfl rfl ?_
  refine r_getIe (pc2 := 23) (x := (nI n)) (by rw [hI1.1 0 33 (by omega), hF 0 33 (by omega)]; exact hm) dX8_tick_20 fl_X8_7 (by decide) rfl rfl rfl ?_
  refine r_icN_ge (pc2 := 26) (tgt := 82) (by omega) (by omega) dX8_tick_23 (by decide) rfl (fun c23 => ?_) (fun c23 => ?_)
  · skip
    have hB : ∀ q, q < n → V2 0 43 q = b2 (sq_ (V 0 37) n (t1_ s) q) := fun q hq => hI1.2 q (by omega)
    have hG : ∀ g r, ¬ (g = 0 ∧ (r = 34 ∨ (40 ≤ r ∧ r ≤ 43))) → V2 g r = V g r := fun g r hg => by rw [hI1.1 g r (by omega)]; exact hF g r (by omega)
    have e34 : V2 0 34 = V13 0 34 := hI1.1 0 34 (by omega)
    have e40 : V2 0 40 = V13 0 40 := hI1.1 0 40 (by omega)
    have e41 : V2 0 41 = V13 0 41 := hI1.1 0 41 (by omega)
    have e42 : V2 0 42 = V13 0 42 := hI1.1 0 42 (by omega)
    refine r_iconst (pc2 := 83) (nI 0) dX8_tick_82 (by decide) rfl ?_
    refine r_istore_n (pc2 := 84) dX8_tick_83 (by decide) rfl rfl ?_
    refine Rc_.to (V' := (fun V3 => V3) (V2)) (lo' := (fun (i : Nat) (V3 : Mm_) => [some (vR 0 33), some (vI (nI i)), none, none]) 0 (V2)) (rfl) ⟨rfl, rfl, trivial⟩ ?_
    refine Rc_forI 0 (n) (fun (i : Nat) (V3 : Mm_) => [some (vR 0 33), some (vI (nI i)), none, none]) (fun V3 => V3) (fun i V3 => (∀ g r, ¬ (g = 0 ∧ r = 34) → V3 g r = V2 g r) ∧ RT_ (V3 0 34) (t3i (V 0 37) n (t1_ s) i) ∧ RS_ (V3 0 34) (kq_ (V 0 37) (Dl_ (t1_ s) (V 0 37 6) n) (Du_ (t1_ s) (V 0 37 6) n) n i (t1_ s)) n ∧ (∀ q, 3464 ≤ q → ¬ q = 3594 → V3 0 34 q = V2 0 34 q)) (by omega) (fun i V3 hi0 hiN hI2 ih84 => ?_) (V2) (⟨fun _ _ _ => rfl, by rw [e34]; exact hT.cong (fun q hq => rfl) (fun r hr => funext fun k => kq_low (by omega) (by omega)), by rw [e34]; exact hS1, fun _ _ _ => rfl⟩)
    have h37 : V3 0 37 = V 0 37 := by rw [hI2.1 0 37 (by omega)]; exact hG 0 37 (by omega)
    have et : t3i (V 0 37) n (t1_ s) i 0 1 = s 0 1 + nI 1 := t3i_low (by omega) (by omega) (by omega) (by omega)
    have hDB : i < n → DB_ V3 n i := fun hi t ht => by rw [hI2.1 0 41 (by omega), hI2.1 0 40 (by omega), e41, e40]; exact hDB0 i hi t ht
    have hLV : ag_ n (V3 0 40) (Dl_ (t1_ s) (V 0 37 6) n) := by rw [hI2.1 0 40 (by omega), e40]; exact hL
    have hUV : ag_ n (V3 0 41) (Du_ (t1_ s) (V 0 37 6) n) := by rw [hI2.1 0 41 (by omega), e41]; exact hU
    have hCV : ag_ n (V3 0 42) (Ch_ (V 0 37 2) (t1_ s) (V 0 37 6) n) := by rw [hI2.1 0 42 (by omega), e42]; exact hC
    refine r_iload_n (pc2 := 85) dX8_tick_84 rfl rfl ?_
    refine r_aload_n (pc2 := 86) dX8_tick_85 rfl rfl ?_
    refine r_getIe (pc2 := 89) (x := (nI n)) (by rw [hI2.1 0 33 (by omega), hG 0 33 (by omega)]; exact hm) dX8_tick_86 fl_X8_7 (by decide) rfl rfl rfl ?_
    refine r_icN_ge (pc2 := 92) (tgt := 117) (by omega) (by omega) dX8_tick_89 (by decide) rfl (fun c89 => ?_) (fun c89 => ?_)
    · skip
      rw [show i = n by omega] at hI2
      have hT3 : RT_ (V3 0 34) (t3_ (V 0 37) n s) := hI2.2.1
      have hS3 : RS_ (V3 0 34) (t3_ (V 0 37) n s) n := hI2.2.2.1.cong hn8 (fun q _ _ => rfl) (fun k _ => t3i_s (Or.inl rfl)) (fun k _ => t3i_s (Or.inr rfl))
      have hJ3 : RJ_ (V3 0 34) (t3_ (V 0 37) n s) m := hJ1.cong (fun q h1 h2 => by rw [hI2.2.2.2 q (by omega) (by omega), e34]) (funext fun k => t3i_low (by omega) (by omega) (by omega) (by omega)) (funext fun k => t3i_low (by omega) (by omega) (by omega) (by omega))
      have hK3 : ∀ g r, ¬ (g = 0 ∧ (r = 34 ∨ (40 ≤ r ∧ r ≤ 43))) → V3 g r = V g r := fun g r hg => by rw [hI2.1 g r (by omega)]; exact hG g r (by omega)
      refine r_aload_n (pc2 := 118) dX8_tick_117 rfl rfl ?_
      refine r_iconst (pc2 := 119) (nI 0) dX8_tick_118 (by decide) rfl ?_
      refine r_put (pc2 := 122) dX8_tick_119 fl_X8_121 (by decide) rfl rfl ft_8_14 rfl rfl rfl ?_
      refine r_iconst (pc2 := 123) (nI 0) dX8_tick_122 (by decide) rfl ?_
      refine r_istore_n (pc2 := 124) dX8_tick_123 (by decide) rfl rfl ?_
      refine Rc_.to (V' := (fun V4 => V4) (m_set V3 0 33 14 (nI 0))) (lo' := (fun (a3 : Nat) (V4 : Mm_) => [some (vR 0 33), some (vI (nI a3)), none, none]) 0 (m_set V3 0 33 14 (nI 0))) (rfl) ⟨rfl, rfl, trivial⟩ ?_
      refine Rc_forI 0 (n) (fun (a3 : Nat) (V4 : Mm_) => [some (vR 0 33), some (vI (nI a3)), none, none]) (fun V4 => V4) (fun a3 V4 => K3_ V3 V4 m (nt_ (Ch_ (V 0 37 2) (t3_ (V 0 37) n s) (V 0 37 6) n) m n a3 (t3_ (V 0 37) n s, 0))) (by omega) (fun a3 V4 ha30 ha3N hI4 ih124 => ?_) (m_set V3 0 33 14 (nI 0)) (⟨fun g r hg => m_ne (by omega), fun k hk => m_i hk, m_j rfl, by rw [m_ne (by decide)]; exact hT3, by rw [m_ne (by decide)]; exact hJ3, fun q _ _ => by rw [m_ne (by decide)]⟩)
      refine r_iload_n (pc2 := 125) dX8_tick_124 rfl rfl ?_
      refine r_aload_n (pc2 := 126) dX8_tick_125 rfl rfl ?_
      refine r_getIe (pc2 := 129) (x := (nI n)) (by rw [hI4.2.1 0 (by decide), hK3 0 33 (by omega)]; exact hm) dX8_tick_126 fl_X8_7 (by decide) rfl rfl rfl ?_
      refine r_icN_ge (pc2 := 132) (tgt := 203) (by omega) (by omega) dX8_tick_129 (by decide) rfl (fun c129 => ?_) (fun c129 => ?_)
      · skip
        exact r_vret dX8_tick_203 rfl (by rw [show a3 = n by omega] at hI4; exact ⟨fun g r hg => by rw [hI4.1 g r (by omega)]; exact hK3 g r (by omega), fun k hk => by rw [hI4.2.1 k hk, hK3 0 33 (by omega)], hI4.2.2.1, hI4.2.2.2.1, hS3.cong hn8 hI4.2.2.2.2.2 (fun k _ => nt_s (by decide) n) (fun k _ => nt_s (by decide) n), hI4.2.2.2.2.1⟩)
      · skip
        refine r_iconst (pc2 := 133) (nI 0) dX8_tick_132 (by decide) rfl ?_
        refine r_istore_n (pc2 := 134) dX8_tick_133 (by decide) rfl rfl ?_
        refine Rc_.to (V' := (fun V5 => V5) (V4)) (lo' := (fun (b3 : Nat) (V5 : Mm_) => [some (vR 0 33), some (vI (nI a3)), some (vI (nI b3)), none]) 0 (V4)) (rfl) ⟨rfl, rfl, rfl, trivial⟩ ?_
        refine Rc_forI 0 (n) (fun (b3 : Nat) (V5 : Mm_) => [some (vR 0 33), some (vI (nI a3)), some (vI (nI b3)), none]) (fun V5 => V5) (fun b3 V5 => K3_ V3 V5 m (nr_ (Ch_ (V 0 37 2) (t3_ (V 0 37) n s) (V 0 37 6) n) m a3 b3 (nt_ (Ch_ (V 0 37 2) (t3_ (V 0 37) n s) (V 0 37 6) n) m n a3 (t3_ (V 0 37) n s, 0)))) (by omega) (fun b3 V5 hb30 hb3N hI5 ih134 => ?_) (V4) (hI4)
        have h37b : V5 0 37 = V 0 37 := by rw [hI5.1 0 37 (by omega)]; exact hK3 0 37 (by omega)
        have hch : b3 < n → ch_ (V 0 37 2) (nr_ (Ch_ (V 0 37 2) (t3_ (V 0 37) n s) (V 0 37 6) n) m a3 b3 (nt_ (Ch_ (V 0 37 2) (t3_ (V 0 37) n s) (V 0 37 6) n) m n a3 (t3_ (V 0 37) n s, 0))).1 (V 0 37 6) n a3 b3 = ch_ (V 0 37 2) (t3_ (V 0 37) n s) (V 0 37 6) n a3 b3 := fun _ => ch_cong (fun r hr => funext fun k => (nr_low (Or.inl hr)).trans (nt_low (Or.inl hr)))
        refine r_iload_n (pc2 := 135) dX8_tick_134 rfl rfl ?_
        refine r_aload_n (pc2 := 136) dX8_tick_135 rfl rfl ?_
        refine r_getIe (pc2 := 139) (x := (nI n)) (by rw [hI5.2.1 0 (by decide), hK3 0 33 (by omega)]; exact hm) dX8_tick_136 fl_X8_7 (by decide) rfl rfl rfl ?_
        refine r_icN_ge (pc2 := 142) (tgt := 197) (by omega) (by omega) dX8_tick_139 (by decide) rfl (fun c139 => ?_) (fun c139 => ?_)
        · skip
          refine r_iincN (pc2 := 200) dX8_tick_197 rfl (by decide) rfl rfl ?_
          refine r_goto (pc2 := 124) dX8_tick_200 (by decide) ?_
          exact Rc_.to (lo' := [some (vR 0 33), some (vI (nI ((a3 + 1)))), none, none]) (rfl) ⟨rfl, rfl, trivial⟩ (ih124 _ (by omega) (by (have e : b3 = n := by omega); subst e; exact hI5))
        · skip
          refine r_aload_n (pc2 := 143) dX8_tick_142 rfl rfl ?_
          refine r_iload_n (pc2 := 144) dX8_tick_143 rfl rfl ?_
          refine r_iload_n (pc2 := 145) dX8_tick_144 rfl rfl ?_
          refine r_cv2p (pc2 := 148) dX8_tick_145 st_X8_tick_107 rl_X8_choiceOf (Nat.le_of_ble_eq_true rfl) rfl (c_X8_choiceOf (V := V5) hI5.2.2.2.1 (by rw [hI5.2.1 0 (by decide), hK3 0 33 (by omega)]; exact hm) hn1 hn8 (by rw [h37b]; exact hse.2.2.1) (by omega) (by omega)) ?_
          rw [h37b, hch (by omega)]
          refine r_istore_n (pc2 := 149) dX8_tick_148 (by decide) rfl rfl ?_
          refine r_aload_n (pc2 := 150) dX8_tick_149 rfl rfl ?_
          refine r_getR (pc2 := 153) dX8_tick_150 fl_X8_13 (by decide) rfl rfl rfl ?_
          refine r_sipush (pc2 := 156) (nI 3464) dX8_tick_153 (by decide) rfl ?_
          refine r_bipush (pc2 := 158) (nI 8) dX8_tick_156 (by decide) rfl ?_
          refine r_iload_n (pc2 := 159) dX8_tick_158 rfl rfl ?_
          refine r_imulN (pc2 := 160) dX8_tick_159 rfl ?_
          refine r_iaddN (pc2 := 161) dX8_tick_160 rfl ?_
          refine r_iload_n (pc2 := 162) dX8_tick_161 rfl rfl ?_
          refine r_iaddN (pc2 := 163) dX8_tick_162 rfl ?_
          refine r_ialde (pc2 := 164) (x := (((nr_ (Ch_ (V 0 37 2) (t3_ (V 0 37) n s) (V 0 37 6) n) m a3 b3 (nt_ (Ch_ (V 0 37 2) (t3_ (V 0 37) n s) (V 0 37 6) n) m n a3 (t3_ (V 0 37) n s, 0))).1 17 (a3 * 8 + b3)))) (j := _) ((congrArg (V5 0 34) (by omega)).trans (hI5.2.2.2.1.ck (a3 * 8 + b3) (by omega))) dX8_tick_163 (by decide) rfl rfl (rfl) (by show _ < 3596; omega) rfl ?_
          refine r_iload_n (pc2 := 165) dX8_tick_164 rfl rfl ?_
          refine r_ic_eq (pc2 := 168) (tgt := 191) dX8_tick_165 (by decide) rfl (fun c165 => ?_) (fun c165 => ?_)
          · skip
            refine r_iincN (pc2 := 194) dX8_tick_191 rfl (by decide) rfl rfl ?_
            refine r_goto (pc2 := 134) dX8_tick_194 (by decide) ?_
            exact Rc_.to (lo' := [some (vR 0 33), some (vI (nI a3)), some (vI (nI ((b3 + 1)))), none]) (rfl) ⟨rfl, rfl, rfl, trivial⟩ (ih134 _ (by omega) (by show K3_ V3 _ m (n1_ (Ch_ (V 0 37 2) (t3_ (V 0 37) n s) (V 0 37 6) n) m a3 b3 (nr_ (Ch_ (V 0 37 2) (t3_ (V 0 37) n s) (V 0 37 6) n) m a3 b3 (nt_ (Ch_ (V 0 37 2) (t3_ (V 0 37) n s) (V 0 37 6) n) m n a3 (t3_ (V 0 37) n s, 0)))); unfold n1_; rw [if_pos (by rw [c165, Ch_at (by omega)])]; exact hI5))
          · skip
            refine r_aload_n (pc2 := 169) dX8_tick_168 rfl rfl ?_
            refine r_getR (pc2 := 172) dX8_tick_169 fl_X8_13 (by decide) rfl rfl rfl ?_
            refine r_sipush (pc2 := 175) (nI 3464) dX8_tick_172 (by decide) rfl ?_
            refine r_bipush (pc2 := 177) (nI 8) dX8_tick_175 (by decide) rfl ?_
            refine r_iload_n (pc2 := 178) dX8_tick_177 rfl rfl ?_
            refine r_imulN (pc2 := 179) dX8_tick_178 rfl ?_
            refine r_iaddN (pc2 := 180) dX8_tick_179 rfl ?_
            refine r_iload_n (pc2 := 181) dX8_tick_180 rfl rfl ?_
            refine r_iaddN (pc2 := 182) dX8_tick_181 rfl ?_
            refine r_iload_n (pc2 := 183) dX8_tick_182 rfl rfl ?_
            refine r_iast (pc2 := 184) (j := _) dX8_tick_183 (by decide) rfl rfl (rfl) (by show _ < 3596; omega) rfl ?_
            refine r_aload_n (pc2 := 185) dX8_tick_184 rfl rfl ?_
            refine r_iload_n (pc2 := 186) dX8_tick_185 rfl rfl ?_
            refine r_iload_n (pc2 := 187) dX8_tick_186 rfl rfl ?_
            refine r_iload_n (pc2 := 188) dX8_tick_187 rfl rfl ?_
            refine r_cv3v (pc2 := 191) dX8_tick_188 st_X8_tick_137 rl_X8_notes (Nat.le_of_ble_eq_true rfl) rfl (c_X8_notes (V := m_set V5 0 34 (3464 + 8 * a3 + b3) _) (m := m + (nr_ (Ch_ (V 0 37 2) (t3_ (V 0 37) n s) (V 0 37 6) n) m a3 b3 (nt_ (Ch_ (V 0 37 2) (t3_ (V 0 37) n s) (V 0 37 6) n) m n a3 (t3_ (V 0 37) n s, 0))).2) (q := (nr_ (Ch_ (V 0 37 2) (t3_ (V 0 37) n s) (V 0 37 6) n) m a3 b3 (nt_ (Ch_ (V 0 37 2) (t3_ (V 0 37) n s) (V 0 37 6) n) m n a3 (t3_ (V 0 37) n s, 0))).2) (s := fun r i => if r = 17 ∧ i = a3 * 8 + b3 then (Ch_ (V 0 37 2) (t3_ (V 0 37) n s) (V 0 37 6) n) (a3 * 8 + b3) else (nr_ (Ch_ (V 0 37 2) (t3_ (V 0 37) n s) (V 0 37 6) n) m a3 b3 (nt_ (Ch_ (V 0 37 2) (t3_ (V 0 37) n s) (V 0 37 6) n) m n a3 (t3_ (V 0 37) n s, 0))).1 r i) (hI5.2.2.2.2.1.cong (fun q h1 h2 => by rw [m_i (by omega)]) (funext fun k => if_neg (fun z => absurd z.1 (by decide))) (funext fun k => if_neg (fun z => absurd z.1 (by decide)))) (by rw [m_ne (by decide)]; exact hI5.2.2.1) (by omega) (by omega)) (fun V188 h188 => ?_)
            refine r_iincN (pc2 := 194) dX8_tick_191 rfl (by decide) rfl rfl ?_
            refine r_goto (pc2 := 134) dX8_tick_194 (by decide) ?_
            exact Rc_.to (lo' := [some (vR 0 33), some (vI (nI a3)), some (vI (nI ((b3 + 1)))), none]) (rfl) ⟨rfl, rfl, rfl, trivial⟩ (ih134 _ (by omega) (K3_n1 (idx := 3464 + 8 * a3 + b3) (by omega) (by omega) hI5 (Ch_at (by omega)).symm (by omega) (fun z => c165 (z.symm.trans (Ch_at (by omega)))) (by rw [m_i (by omega)]; exact hI5.2.2.2.1.tm) h188))
    · skip
      refine r_aload_n (pc2 := 93) dX8_tick_92 rfl rfl ?_
      refine r_getR (pc2 := 96) dX8_tick_93 fl_X8_41 (by decide) rfl rfl rfl ?_
      refine r_iload_n (pc2 := 97) dX8_tick_96 rfl rfl ?_
      refine r_zalde (pc2 := 98) (x := (b2 ((sq_ (V 0 37) n (t1_ s) i)))) (j := _) (by rw [hI2.1 0 43 (by omega)]; exact hB i (by omega)) dX8_tick_97 (by decide) rfl rfl (rfl) (by show _ < 8; omega) rfl ?_
      refine r_ifB_eq (pc2 := 101) (tgt := 111) dX8_tick_98 (by decide) rfl (fun c98 => ?_) (fun c98 => ?_)
      · skip
        refine r_iincN (pc2 := 114) dX8_tick_111 rfl (by decide) rfl rfl ?_
        refine r_goto (pc2 := 84) dX8_tick_114 (by decide) ?_
        exact Rc_.to (lo' := [some (vR 0 33), some (vI (nI ((i + 1)))), none, none]) (rfl) ⟨rfl, rfl, trivial⟩ (ih84 _ (by omega) (⟨hI2.1, by rw [t3i_1, if_neg (by rw [c98]; decide)]; exact hI2.2.1, by rw [kq_1, if_neg (show ¬ sp_ _ _ _ _ _ _ = true from fun z => absurd (show sq_ (V 0 37) n (t1_ s) i = true from z) (by rw [c98]; decide))]; exact hI2.2.2.1, hI2.2.2.2⟩))
      · skip
        refine r_aload_n (pc2 := 102) dX8_tick_101 rfl rfl ?_
        refine r_iload_n (pc2 := 103) dX8_tick_102 rfl rfl ?_
        refine r_cv1v (pc2 := 106) dX8_tick_103 st_X8_tick_130 rl_X8_sendsAll (Nat.le_of_ble_eq_true rfl) rfl (c_X8_sendsAll (V := V3) hI2.2.1 (by rw [hI2.1 0 33 (by omega), hG 0 33 (by omega)]; exact hm) hn8 (by omega) (by rw [h37]; exact hse) (by rw [et]; exact tp0) (by rw [et, h37]; exact tp1) (hDB (by omega))) (fun V103 h103 => ?_)
        refine r_aload_n (pc2 := 107) dX8_tick_106 rfl rfl ?_
        refine r_iload_n (pc2 := 108) dX8_tick_107 rfl rfl ?_
        refine r_cv1m (pc2 := 111) dX8_tick_108 st_X8_tick_134 rl_X8_keepsSent (Nat.le_of_ble_eq_true rfl) rfl (c_X8_keepsSent (V := V103) (i := i) (by omega) (by rw [h103.1 0 33 (by omega), hI2.1 0 33 (by omega), hG 0 33 (by omega)]; exact hm) hn8) ?_
        refine r_iincN (pc2 := 114) dX8_tick_111 rfl (by decide) rfl rfl ?_
        refine r_goto (pc2 := 84) dX8_tick_114 (by decide) ?_
        exact Rc_.to (lo' := [some (vR 0 33), some (vI (nI ((i + 1)))), none, none]) (rfl) ⟨rfl, rfl, trivial⟩ (ih84 _ (by omega) (⟨fun g r hg => by rw [a_ne hg, h103.1 g r hg]; exact hI2.1 g r hg, by rw [t3i_1, if_pos c98, a_same]; exact RT_.cong (by have q := h103.2.2.1; rw [h37, sk_cong hLV hUV hCV (by omega)] at q; exact q) (fun q hq => ks_out (by omega) hn8 (by omega)) (fun r hr => rfl), by rw [kq_1, if_pos (show sp_ _ _ _ _ _ _ = true from c98), a_same]; exact (by have q := (RS_.cong hI2.2.2.1 hn8 (fun q h1 h2 => h103.2.1 q (by omega) (by omega)) (fun _ _ => rfl) (fun _ _ => rfl)).kp (dl := V103 0 40) (du := V103 0 41) hn8 (show i < n by omega); rw [kp_cong (a := i) (by rw [h103.1 0 40 (by omega)]; exact hLV) (by rw [h103.1 0 41 (by omega)]; exact hUV) (by omega)] at q; exact q), fun q h1 h2 => by rw [a_same, ks_out (by omega) hn8 (by omega), h103.2.1 q (by omega) h2]; exact hI2.2.2.2 q h1 h2⟩))
  · skip
    refine r_aload_n (pc2 := 27) dX8_tick_26 rfl rfl ?_
    refine r_getR (pc2 := 30) dX8_tick_27 fl_X8_41 (by decide) rfl rfl rfl ?_
    refine r_iload_n (pc2 := 31) dX8_tick_30 rfl rfl ?_
    refine r_aload_n (pc2 := 32) dX8_tick_31 rfl rfl ?_
    refine r_getR (pc2 := 35) dX8_tick_32 fl_X8_13 (by decide) rfl rfl rfl ?_
    refine r_sipush (pc2 := 38) (nI 3593) dX8_tick_35 (by decide) rfl ?_
    refine r_ialde (pc2 := 39) (x := ((t1_ s 0 1))) (j := _) (by rw [hI1.1 0 34 (by omega)]; exact hT.tm) dX8_tick_38 (by decide) rfl rfl (rfl) (by show _ < 3596; omega) rfl ?_
    refine r_iload_n (pc2 := 40) dX8_tick_39 rfl rfl ?_
    refine r_iadd (pc2 := 41) dX8_tick_40 rfl ?_
    refine r_aload_n (pc2 := 42) dX8_tick_41 rfl rfl ?_
    refine r_getR (pc2 := 45) dX8_tick_42 fl_X8_23 (by decide) rfl rfl rfl ?_
    refine r_iconst (pc2 := 46) (nI 0) dX8_tick_45 (by decide) rfl ?_
    refine r_ialde (pc2 := 47) (x := ((V 0 37 0))) (j := _) (by rw [hI1.1 0 37 (by omega), hF 0 37 (by omega)]) dX8_tick_46 (by decide) rfl rfl (rfl) (by show _ < 10; omega) rfl ?_
    refine r_irem (pc2 := 48) dX8_tick_47 (fun z => absurd hse.1.1 (by rw [z]; decide)) rfl ?_
    refine r_if_eq (pc2 := 51) (tgt := 70) dX8_tick_48 (by decide) rfl (fun c48 => ?_) (fun c48 => ?_)
    · skip
      refine r_iconst (pc2 := 71) (nI 1) dX8_tick_70 (by decide) rfl ?_
      refine r_goto (pc2 := 75) dX8_tick_71 (by decide) ?_
      refine r_zast (pc2 := 76) (j := _) dX8_tick_75 (by decide) rfl rfl (by decide) (rfl) (by show _ < 8; omega) rfl ?_
      refine r_iincN (pc2 := 79) dX8_tick_76 rfl (by decide) rfl rfl ?_
      refine r_goto (pc2 := 18) dX8_tick_79 (by decide) ?_
      exact Rc_.to (lo' := [some (vR 0 33), some (vI (nI ((a + 1)))), none, none]) (rfl) ⟨rfl, rfl, trivial⟩ (ih18 _ (by omega) (⟨fun g r hg => by rw [m_ne hg]; exact hI1.1 g r hg, fun q hq => by
        by_cases e : q = a
        · rw [m_j e, e, sq_eq hn8 (by omega) hL hU]; exact b2_1 (by rw [show due_ (V 0 37 0) (t1_ s 0 1) a = true from decide_eq_true ⟨hse.1.1, c48⟩]; rfl)
        · rw [m_i e]; exact hI1.2 q (by omega)⟩))
    · skip
      refine r_aload_n (pc2 := 52) dX8_tick_51 rfl rfl ?_
      refine r_getR (pc2 := 55) dX8_tick_52 fl_X8_23 (by decide) rfl rfl rfl ?_
      refine r_bipush (pc2 := 57) (nI 7) dX8_tick_55 (by decide) rfl ?_
      refine r_ialde (pc2 := 58) (x := ((V 0 37 7))) (j := _) (by rw [hI1.1 0 37 (by omega), hF 0 37 (by omega)]) dX8_tick_57 (by decide) rfl rfl (rfl) (by show _ < 10; omega) rfl ?_
      refine r_iconst (pc2 := 59) (nI 1) dX8_tick_58 (by decide) rfl ?_
      refine r_ic_ne (pc2 := 62) (tgt := 74) dX8_tick_59 (by decide) rfl (fun c59 => ?_) (fun c59 => ?_)
      · skip
        refine r_iconst (pc2 := 75) (nI 0) dX8_tick_74 (by decide) rfl ?_
        refine r_zast (pc2 := 76) (j := _) dX8_tick_75 (by decide) rfl rfl (by decide) (rfl) (by show _ < 8; omega) rfl ?_
        refine r_iincN (pc2 := 79) dX8_tick_76 rfl (by decide) rfl rfl ?_
        refine r_goto (pc2 := 18) dX8_tick_79 (by decide) ?_
        exact Rc_.to (lo' := [some (vR 0 33), some (vI (nI ((a + 1)))), none, none]) (rfl) ⟨rfl, rfl, trivial⟩ (ih18 _ (by omega) (⟨fun g r hg => by rw [m_ne hg]; exact hI1.1 g r hg, fun q hq => by
          by_cases e : q = a
          · rw [m_j e, e, sq_eq hn8 (by omega) hL hU]; exact b2_0 (by rw [show due_ (V 0 37 0) (t1_ s 0 1) a = false from decide_eq_false (fun z => c48 z.2), decide_eq_false c59]; rfl)
          · rw [m_i e]; exact hI1.2 q (by omega)⟩))
      · skip
        refine r_aload_n (pc2 := 63) dX8_tick_62 rfl rfl ?_
        refine r_iload_n (pc2 := 64) dX8_tick_63 rfl rfl ?_
        refine r_cv1p (pc2 := 67) dX8_tick_64 st_X8_tick_127 rl_X8_isNew (Nat.le_of_ble_eq_true rfl) rfl (c_X8_isNew (V := V2) (s := t1_ s) (by omega) (by rw [hI1.1 0 33 (by omega), hF 0 33 (by omega)]; exact hm) hn8 (by rw [hI1.1 0 34 (by omega)]; exact hS1) (by rw [hI1.1 0 40 (by omega)]; exact hd2 a (by omega))) ?_
        rw [hI1.1 0 40 (by omega), hI1.1 0 41 (by omega)]
        refine r_ifB_eq (pc2 := 70) (tgt := 74) dX8_tick_67 (by decide) rfl (fun c67 => ?_) (fun c67 => ?_)
        · skip
          refine r_iconst (pc2 := 75) (nI 0) dX8_tick_74 (by decide) rfl ?_
          refine r_zast (pc2 := 76) (j := _) dX8_tick_75 (by decide) rfl rfl (by decide) (rfl) (by show _ < 8; omega) rfl ?_
          refine r_iincN (pc2 := 79) dX8_tick_76 rfl (by decide) rfl rfl ?_
          refine r_goto (pc2 := 18) dX8_tick_79 (by decide) ?_
          exact Rc_.to (lo' := [some (vR 0 33), some (vI (nI ((a + 1)))), none, none]) (rfl) ⟨rfl, rfl, trivial⟩ (ih18 _ (by omega) (⟨fun g r hg => by rw [m_ne hg]; exact hI1.1 g r hg, fun q hq => by
            by_cases e : q = a
            · rw [m_j e, e, sq_eq hn8 (by omega) hL hU]; first | exact b2_0 (by rw [show due_ (V 0 37 0) (t1_ s 0 1) a = false from decide_eq_false (fun z => c48 z.2), c67, Bool.and_false]; rfl) | exact b2_1 (by rw [c67, decide_eq_true c59]; exact Bool.or_true _)
            · rw [m_i e]; exact hI1.2 q (by omega)⟩))
        · skip
          refine r_iconst (pc2 := 71) (nI 1) dX8_tick_70 (by decide) rfl ?_
          refine r_goto (pc2 := 75) dX8_tick_71 (by decide) ?_
          refine r_zast (pc2 := 76) (j := _) dX8_tick_75 (by decide) rfl rfl (by decide) (rfl) (by show _ < 8; omega) rfl ?_
          refine r_iincN (pc2 := 79) dX8_tick_76 rfl (by decide) rfl rfl ?_
          refine r_goto (pc2 := 18) dX8_tick_79 (by decide) ?_
          exact Rc_.to (lo' := [some (vR 0 33), some (vI (nI ((a + 1)))), none, none]) (rfl) ⟨rfl, rfl, trivial⟩ (ih18 _ (by omega) (⟨fun g r hg => by rw [m_ne hg]; exact hI1.1 g r hg, fun q hq => by
            by_cases e : q = a
            · rw [m_j e, e, sq_eq hn8 (by omega) hL hU]; first | exact b2_0 (by rw [show due_ (V 0 37 0) (t1_ s 0 1) a = false from decide_eq_false (fun z => c48 z.2), c67, Bool.and_false]; rfl) | exact b2_1 (by rw [c67, decide_eq_true c59]; exact Bool.or_true _)
            · rw [m_i e]; exact hI1.2 q (by omega)⟩))
