/-! base 3: rows of fields and arrays -/
theorem c_obj {ad : Nat × Nat → Nat} {cI cZ : ClassId} {V : Mm_} {g r ci : Nat} (h : k_cls r = some ci) : c_of ad cI cZ V (g, r) = .inr (ci, f_vals ad (V g r) 0 (k_fld g r)) := by
  unfold c_of
  rw [h]
theorem c_arr {ad : Nat × Nat → Nat} {cI cZ : ClassId} {V : Mm_} {g r : Nat} (h : k_cls r = none) : c_of ad cI cZ V (g, r) = .inl (if k_isZ r = true then cZ else cI, k_len r, .inl (V g r)) := by
  unfold c_of
  rw [h]
section MEM
variable {PL : List (Nat × Nat)} {y : mi_T} {pc pc2 : Nat} {lo : List (Option Vl_)} {st : List Vl_} {V : Mm_} {Φ : Ph_}
theorem r_getR {g r idx ci k : Nat} {g' r' : Nat} (hd : dc_at y pc (.getfield idx) 3) (hf : fl_at y.1.cls idx ci k) (hr : r < 46) (hc : k_cls r = some ci) (hk0 : (k_fld g r)[k]? = some (some (g', r'))) (h2 : pc + 3 = pc2) (kk : Rc_ PL y pc2 lo (vR g' r' :: st) V Φ) : Rc_ PL y pc lo (vR g r :: st) V Φ := by
  subst h2
  intro p l e R s m args below meth c cells slots Z dC dI cI cZ ad A hx hk H locs ls hP hS hl hst hlo
  obtain ⟨C, T, N, h1, h2, h3⟩ := hf
  have hq := hst.1.pl hr
  obtain ⟨i, hi, hw⟩ := w_at (ad := ad) (cI := cI) (cZ := cZ) (V := V) hq
  rw [c_obj hc] at hw
  refine va_get (Ts := lw_tbl.filter goodWord) hx.1 hx.2.1 (fun w hw => hx.2.2.2.2.2.1 w (by simpa [gd_T] using hw)) (fun w hw => by simpa [gd_T] using (cl_ok _ _ _ _ h1).1 w hw) hx.2.2.2.2.1 hx.2.2.2.2.2.2.2.2.2.2.2.2.1 hP i hw h1 k h2 (hx.2.2.2.2.2.1 _ h3) (fun _ h => h) (v := .ref (ad (g', r'))) ?_ hd ?_
  · exact f_vals_get ad _ _ _ _ _ hk0
  · exact kk hx hk H locs ls hP hS hl ⟨Or.inl (hx.2.2.2.2.2.2.2.2.2.2.2.2.2.2.1 _ hq k _ hk0), hst.2⟩ hlo
theorem r_getI {g r idx ci k : Nat} (hd : dc_at y pc (.getfield idx) 3) (hf : fl_at y.1.cls idx ci k) (hr : r < 46) (hc : k_cls r = some ci) (hk0 : (k_fld g r)[k]? = some none) (h2 : pc + 3 = pc2) (kk : Rc_ PL y pc2 lo (vI (V g r k) :: st) V Φ) : Rc_ PL y pc lo (vR g r :: st) V Φ := by
  subst h2
  intro p l e R s m args below meth c cells slots Z dC dI cI cZ ad A hx hk H locs ls hP hS hl hst hlo
  obtain ⟨C, T, N, h1, h2, h3⟩ := hf
  have hq := hst.1.pl hr
  obtain ⟨i, hi, hw⟩ := w_at (ad := ad) (cI := cI) (cZ := cZ) (V := V) hq
  rw [c_obj hc] at hw
  refine va_get (Ts := lw_tbl.filter goodWord) hx.1 hx.2.1 (fun w hw => hx.2.2.2.2.2.1 w (by simpa [gd_T] using hw)) (fun w hw => by simpa [gd_T] using (cl_ok _ _ _ _ h1).1 w hw) hx.2.2.2.2.1 hx.2.2.2.2.2.2.2.2.2.2.2.2.1 hP i hw h1 k h2 (hx.2.2.2.2.2.1 _ h3) (fun _ h => h) (v := .int (V g r k)) ?_ hd ?_
  · have := f_vals_get ad (V g r) _ 0 _ _ hk0
    rwa [Nat.zero_add] at this
  · exact kk hx hk H locs ls hP hS hl ⟨trivial, hst.2⟩ hlo
theorem r_put {g r idx ci k : Nat} {ty : FieldType} {x : Int32} (hd : dc_at y pc (.putfield idx) 3) (hf : fl_at y.1.cls idx ci k) (hr : r < 46) (hc : k_cls r = some ci) (hk0 : (k_fld g r)[k]? = some none) (hty : ∀ C T N, vwCl[ci]? = some (C, T, N) → (T k).2.2.2 = false ∧ parseFieldDescriptor (T k).2.2.1 = some ty) (hn : narrow ty (.int x) = .int x) (hfit : fits ty (.int x) = true) (h2 : pc + 3 = pc2) (kk : Rc_ PL y pc2 lo st (m_set V g r k x) Φ) : Rc_ PL y pc lo (vI x :: vR g r :: st) V Φ := by
  subst h2
  intro p l e R s m args below meth c cells slots Z dC dI cI cZ ad A hx hk H locs ls hP hS hl hst hlo
  obtain ⟨C, T, N, h1, h2, h3⟩ := hf
  have hq := hst.2.1.pl hr
  obtain ⟨i, hi, hw⟩ := w_at (ad := ad) (cI := cI) (cZ := cZ) (V := V) hq
  rw [c_obj hc] at hw
  obtain ⟨c1, c2, ty0, c3⟩ := cl_ok _ _ _ _ h1
  have hD := w_D (V' := V) hx.2.2.2.2.2.2.2.2.2.2.2.2.2.1
  refine va_put (Ts := lw_tbl.filter goodWord) hx.1 hx.2.1 (fun w hw => hx.2.2.2.2.2.1 w (by simpa [gd_T] using hw)) (fun w hw => by simpa [gd_T] using c1 w hw) ty0 c3 c2 hx.2.2.2.2.1 hx.2.2.2.2.2.2.2.2.2.2.2.2.1 hP hD hS i hw h1 k h2 (hx.2.2.2.2.2.1 _ h3) (fun _ h => h) (hty _ _ _ h1).1 (v := Value.int x) (hty _ _ _ h1).2 hn hfit ?_ hd (fun H1 locs1 hP1 hD1 hS1 => ?_)
  · rw [f_vals_len]
    exact (List.getElem?_eq_some_iff.mp hk0).1
  · rw [w_set (g := g) (r := r) (f := upd (V g r) k x) hD hi (by rw [c_obj hc, a_self, f_vals_set ad _ _ _ _ _ hk0, Nat.zero_add])] at hP1
    exact kk hx hk H1 locs1 ls hP1 hS1 hl hst.2.2 hlo
theorem r_iald {g r j : Nat} {i : Int32} (hd : dc_at y pc .iaload 1) (hr : r < 46) (hc : k_cls r = none) (hz : k_isZ r = false) (hi : i = nI j) (hj : j < k_len r) (h2 : pc + 1 = pc2) (kk : Rc_ PL y pc2 lo (vI (V g r j) :: st) V Φ) : Rc_ PL y pc lo (vI i :: vR g r :: st) V Φ := by
  subst h2
  intro p l e R s m args below meth c cells slots Z dC dI cI cZ ad A hx hk H locs ls hP hS hl hst hlo
  have hlen : k_len r < 2 ^ 31 := by
    unfold k_len
    split <;> decide
  have hq := hst.2.1.pl hr
  obtain ⟨q, hq1, hw⟩ := w_at (ad := ad) (cI := cI) (cZ := cZ) (V := V) hq
  rw [c_arr hc, hz] at hw
  refine va_iald hx.1 hx.2.1 hx.2.2.2.2.2.2.2.2.2.2.2.2.1 hP q 0 hw rfl (by rw [hi]; exact vp_in_nI hj hlen) hd ?_
  have := kk hx hk H locs ls hP hS hl ⟨trivial, hst.2.2⟩ hlo
  rw [hi, nI_clamp (Nat.lt_trans hj hlen)]
  exact this
theorem r_iast {g r j : Nat} {i x : Int32} (hd : dc_at y pc .iastore 1) (hr : r < 46) (hc : k_cls r = none) (hz : k_isZ r = false) (hi : i = nI j) (hj : j < k_len r) (h2 : pc + 1 = pc2) (kk : Rc_ PL y pc2 lo st (m_set V g r j x) Φ) : Rc_ PL y pc lo (vI x :: vI i :: vR g r :: st) V Φ := by
  subst h2
  intro p l e R s m args below meth c cells slots Z dC dI cI cZ ad A hx hk H locs ls hP hS hl hst hlo
  have hlen : k_len r < 2 ^ 31 := by
    unfold k_len
    split <;> decide
  have hq := hst.2.2.1.pl hr
  obtain ⟨q, hq1, hw⟩ := w_at (ad := ad) (cI := cI) (cZ := cZ) (V := V) hq
  rw [c_arr hc, hz] at hw
  have hD := w_D (V' := V) hx.2.2.2.2.2.2.2.2.2.2.2.2.2.1
  refine va_iast hx.1 hx.2.1 hx.2.2.2.2.2.2.2.2.2.2.2.2.1 hP hD hS q 0 hw rfl (by rw [hi]; exact vp_in_nI hj hlen) hd (fun H1 locs1 hP1 hD1 hS1 => ?_)
  rw [hi, nI_clamp (Nat.lt_trans hj hlen)] at hP1
  rw [w_set (g := g) (r := r) (f := upd (V g r) j x) hD hq1 (by rw [c_arr hc, hz, a_self])] at hP1
  exact kk hx hk H1 locs1 ls hP1 hS1 hl hst.2.2.2 hlo
theorem r_zald {g r j : Nat} {i : Int32} (hd : dc_at y pc .baload 1) (hr : r < 46) (hc : k_cls r = none) (hz : k_isZ r = true) (hi : i = nI j) (hj : j < k_len r) (h2 : pc + 1 = pc2) (kk : Rc_ PL y pc2 lo (vI (V g r j) :: st) V Φ) : Rc_ PL y pc lo (vI i :: vR g r :: st) V Φ := by
  subst h2
  intro p l e R s m args below meth c cells slots Z dC dI cI cZ ad A hx hk H locs ls hP hS hl hst hlo
  have hlen : k_len r < 2 ^ 31 := by
    unfold k_len
    split <;> decide
  have hq := hst.2.1.pl hr
  obtain ⟨q, hq1, hw⟩ := w_at (ad := ad) (cI := cI) (cZ := cZ) (V := V) hq
  rw [c_arr hc, hz] at hw
  refine va_zald hx.1 hx.2.1 hx.2.2.2.2.2.2.2.2.2.2.2.2.1 hP q 1 hw rfl (by rw [hi]; exact vp_in_nI hj hlen) hd ?_
  have := kk hx hk H locs ls hP hS hl ⟨trivial, hst.2.2⟩ hlo
  rw [hi, nI_clamp (Nat.lt_trans hj hlen)]
  exact this
theorem r_zast {g r j : Nat} {i x : Int32} (hd : dc_at y pc .bastore 1) (hr : r < 46) (hc : k_cls r = none) (hz : k_isZ r = true) (hx01 : x = 0 ∨ x = 1) (hi : i = nI j) (hj : j < k_len r) (h2 : pc + 1 = pc2) (kk : Rc_ PL y pc2 lo st (m_set V g r j x) Φ) : Rc_ PL y pc lo (vI x :: vI i :: vR g r :: st) V Φ := by
  subst h2
  intro p l e R s m args below meth c cells slots Z dC dI cI cZ ad A hx hk H locs ls hP hS hl hst hlo
  have hlen : k_len r < 2 ^ 31 := by
    unfold k_len
    split <;> decide
  have hq := hst.2.2.1.pl hr
  obtain ⟨q, hq1, hw⟩ := w_at (ad := ad) (cI := cI) (cZ := cZ) (V := V) hq
  rw [c_arr hc, hz] at hw
  have hD := w_D (V' := V) hx.2.2.2.2.2.2.2.2.2.2.2.2.2.1
  have hv : vp_nar .boolean x = x := by rcases hx01 with rfl | rfl <;> decide
  refine va_zast hx.1 hx.2.1 hx.2.2.2.2.2.2.2.2.2.2.2.2.1 hP hD hS q 1 hw rfl (by rw [hi]; exact vp_in_nI hj hlen) hd (fun H1 locs1 hP1 hD1 hS1 => ?_)
  rw [hv, hi, nI_clamp (Nat.lt_trans hj hlen)] at hP1
  rw [w_set (g := g) (r := r) (f := upd (V g r) j x) hD hq1 (by rw [c_arr hc, hz, a_self])] at hP1
  exact kk hx hk H1 locs1 ls hP1 hS1 hl hst.2.2.2 hlo
theorem r_alen {g r : Nat} (hd : dc_at y pc .arraylength 1) (hr : r < 46) (hc : k_cls r = none) (h2 : pc + 1 = pc2) (kk : Rc_ PL y pc2 lo (vI (nI (k_len r)) :: st) V Φ) : Rc_ PL y pc lo (vR g r :: st) V Φ := by
  subst h2
  intro p l e R s m args below meth c cells slots Z dC dI cI cZ ad A hx hk H locs ls hP hS hl hst hlo
  have hq := hst.1.pl hr
  obtain ⟨q, hq1, hw⟩ := w_at (ad := ad) (cI := cI) (cZ := cZ) (V := V) hq
  rw [c_arr hc] at hw
  cases hz : k_isZ r with
  | true =>
    rw [hz] at hw
    exact va_alen (ty := .boolean) hx.1 hx.2.1 hx.2.2.2.2.2.2.2.2.2.2.2.2.1 hP q 1 hw rfl rfl hd (kk hx hk H locs ls hP hS hl ⟨trivial, hst.2⟩ hlo)
  | false =>
    rw [hz] at hw
    exact va_alen (ty := .int) hx.1 hx.2.1 hx.2.2.2.2.2.2.2.2.2.2.2.2.1 hP q 0 hw rfl rfl hd (kk hx hk H locs ls hP hS hl ⟨trivial, hst.2⟩ hlo)
theorem r_gsL {idx : Nat} (hd : dc_at y pc (.getstatic idx) 3) (hf : gd_T (.fieldLink y.1.cls idx "IntervalRouting" "LEAST_SETTING" "[I")) (h2 : pc + 3 = pc2) (kk : Rc_ PL y pc2 lo (vR 0 47 :: st) V Φ) : Rc_ PL y pc lo st V Φ := by
  subst h2
  intro p l e R s m args below meth c cells slots Z dC dI cI cZ ad A hx hk H locs ls hP hS hl hst hlo
  exact va_gets hx.1 hx.2.1 hx.2.2.2.2.2.2.2.2.2.2.2.2.2.2.2.1 hS hx.2.2.2.2.1 (hx.2.2.2.2.2.1 _ hf) (fun _ h => h) hd (kk hx hk H locs ls hP hS hl ⟨Or.inr (Or.inl rfl), hst⟩ hlo)
theorem r_gsM {idx : Nat} (hd : dc_at y pc (.getstatic idx) 3) (hf : gd_T (.fieldLink y.1.cls idx "IntervalRouting" "MOST_SETTING" "[I")) (h2 : pc + 3 = pc2) (kk : Rc_ PL y pc2 lo (vR 0 48 :: st) V Φ) : Rc_ PL y pc lo st V Φ := by
  subst h2
  intro p l e R s m args below meth c cells slots Z dC dI cI cZ ad A hx hk H locs ls hP hS hl hst hlo
  exact va_gets hx.1 hx.2.1 hx.2.2.2.2.2.2.2.2.2.2.2.2.2.2.2.2.2.1 hS hx.2.2.2.2.1 (hx.2.2.2.2.2.1 _ hf) (fun _ h => h) hd (kk hx hk H locs ls hP hS hl ⟨Or.inr (Or.inr rfl), hst⟩ hlo)
theorem r_saldL {j : Nat} {i : Int32} (hd : dc_at y pc .iaload 1) (hi : i = nI j) (hj : j < 10) (h2 : pc + 1 = pc2) (kk : Rc_ PL y pc2 lo (vI (st_L j) :: st) V Φ) : Rc_ PL y pc lo (vI i :: vR 0 47 :: st) V Φ := by
  subst h2
  intro p l e R s m args below meth c cells slots Z dC dI cI cZ ad A hx hk H locs ls hP hS hl hst hlo
  exact va_ti hx.1 hx.2.1 hx.2.2.2.2.2.2.2.2.2.2.2.2.2.2.2.2.1 hS (by rw [hi]; exact vp_in_nI hj (by decide)) (by rw [hi, nI_clamp (Nat.lt_trans hj (by decide))]; rfl) hd (kk hx hk H locs ls hP hS hl ⟨trivial, hst.2.2⟩ hlo)
theorem r_saldM {j : Nat} {i : Int32} (hd : dc_at y pc .iaload 1) (hi : i = nI j) (hj : j < 10) (h2 : pc + 1 = pc2) (kk : Rc_ PL y pc2 lo (vI (st_M j) :: st) V Φ) : Rc_ PL y pc lo (vI i :: vR 0 48 :: st) V Φ := by
  subst h2
  intro p l e R s m args below meth c cells slots Z dC dI cI cZ ad A hx hk H locs ls hP hS hl hst hlo
  exact va_ti hx.1 hx.2.1 hx.2.2.2.2.2.2.2.2.2.2.2.2.2.2.2.2.2.2 hS (by rw [hi]; exact vp_in_nI hj (by decide)) (by rw [hi, nI_clamp (Nat.lt_trans hj (by decide))]; rfl) hd (kk hx hk H locs ls hP hS hl ⟨trivial, hst.2.2⟩ hlo)
end MEM
