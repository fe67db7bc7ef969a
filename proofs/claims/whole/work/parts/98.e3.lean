variable {V W : Nat → Int32}
theorem nig7 (h : EQ V W) (hNV : InvN V) (hIV : InvR V) (hI : InvR W) (h7 : rg (W 7) 999999) {n : Nat} (hn : n ≤ 61) : goC V n 7 = heldR (goR W n 7) 999999 := by
  rw [goC7 hNV hIV (by rw [h.2]; exact h7) hn, h.1.go7 h.2 hI n]
theorem hld_E {X Y : Nat → Int32} (h : eqv X Y) (h7 : X 7 = heldR (Y 7) 999999) : EQ X (hldW Y) := ⟨by
  have e : eqv (hldW Y) Y := (eqv.rf).u7
  exact h.tr e.sy, by rw [h7]; unfold hldW; rw [pk_us]⟩
theorem EQ.q_nigX (h : EQ V W) (hNV : InvN V) (hIV : InvR V) (hI : InvR W) (h7 : rg (W 7) 999999) {n : Int32} : nigX V n = nightsX W n := ite_c fun c => by
  obtain ⟨j, hj, rfl⟩ := rng (x := n) 60 (by decide) ⟨Int32.le_trans (by decide) c.1, c.2⟩
  rw [cl_nI (by omega)]
  exact nig7 h hNV hIV hI h7 (by omega)
theorem EQ.q_nigW (h : EQ V W) (hNV : InvN V) (hIV : InvR V) (hI : InvR W) (h7 : rg (W 7) 999999) {n : Int32} : EQ (nigW V n) (nightsW W n) := iteE2 (fun c => by
  obtain ⟨j, hj, rfl⟩ := rng (x := n) 60 (by decide) ⟨Int32.le_trans (by decide) c.1, c.2⟩
  rw [cl_nI (by omega)]
  exact hld_E ((goC_e hIV j).tr (h.1.go hI j)) (nig7 h hNV hIV hI h7 (by omega))) (fun _ => h)
theorem thr7 : thrR W 7 = W 7 := thrR_lo (by omega) (by omega)
theorem EQ.thr (h : EQ V W) (hI : InvR W) : EQ (thrR V) (thrR W) := ⟨h.1.thr hI, by rw [thr7, thr7]; exact h.2⟩
theorem EQ.q_nightX (h : EQ V W) (hI : InvR W) : showB (thrR V) = showB (thrR W) := (h.1.thr hI).sB (thrR_inv hI)
theorem EQ.q_nightW (h : EQ V W) (hNV : InvN V) (hIV : InvR V) (hI : InvR W) (h7 : rg (W 7) 999999) : EQ (nightC (thrR V)) (hldW (nightR (thrR W))) := by
  have e := nig7 (n := 1) (h.thr hI) (thrR_N hNV hIV) (thrR_inv hIV) (thrR_inv hI) (by rw [thr7]; exact h7) (by omega)
  exact hld_E (nightC_e.tr ((h.thr hI).1.night (thrR_inv hI))) e
theorem EQ.q_worst (h : EQ V W) (hI : InvR W) : ∀ n, n ≤ plR W → worstR V n = worstR W n
  | 0, _ => by rw [worstR, worstR, h.1.sB hI]
  | n + 1, hn => by
    rw [worstR, worstR, EQ.q_worst h hI n (by omega), h.1.2 n (by omega) 2 (by omega), (h.up (i := 16 + 11 * n + 2) (x := 1) (by omega)).1.sB (upd_inv hI (by omega) (fun k hk => by omega))]
theorem EQ.q_worstX (h : EQ V W) (hI : InvR W) : (worstR V (plR V)).1 = (worstR W (plR W)).1 := by
  rw [h.1.pl, h.q_worst hI _ (Nat.le_refl _)]
theorem mx_cg {v v' : Nat → Int32} {b m : Int32} : ∀ n, (∀ j, j < n → v j = v' j) → mxR v b m n = mxR v' b m n
  | 0, _ => rfl
  | n + 1, h => by rw [mxR, mxR, mx_cg n (fun j hj => h j (by omega)), h n (by omega)]
theorem mx_b {v : Nat → Int32} {a b m : Int32} (h : m < v 0) : ∀ n, mxR v a m (n + 1) = mxR v b m (n + 1)
  | 0 => by rw [mxR, mxR, mxR, mxR, if_pos h, if_pos h]
  | n + 1 => by
    have e := mx_b (a := a) (b := b) h n
    rw [mxR, e]
    exact (mxR.eq_2 v b m (n + 1)).symm
theorem EQ.q_learnerX (h : EQ V W) (hI : InvR W) {p n : Int32} : learnerX V p n = learnerX W p n := by
  unfold learnerX
  refine ite_c fun c => ?_
  have hp := p7_k c.1
  rw [h.1.go7 h.2 hI, h.1.pl, mx_cg (v := fun k => goR (upd V (16 + 11 * k + (3 + cl p)) 99) (cl n) 7) (v' := fun k => goR (upd W (16 + 11 * k + (3 + cl p)) 99) (cl n) 7) _ (fun j hj => (h.up (by omega)).1.go7 (h.up (by omega)).2 (upd_inv hI (by omega) (fun k hk => by omega)) _)]
theorem EQ.q_kin (h : EQ V W) (hNV : InvN V) (hIV : InvR V) (hI : InvR W) (h7 : rg (W 7) 999999) {x n : Int32} : kinX V x n = kindX W x n := by
  unfold kinX kindX
  rw [h.h6]
  refine ite_c fun c => ?_
  have hk := inPl_k hI c.1
  obtain ⟨h8, _⟩ := hI.pl
  obtain ⟨j, hj, rfl⟩ := rng (x := n) 30 (by decide) ⟨Int32.le_trans (by decide) c.2.1, c.2.2⟩
  rw [cl_nI (by omega)]
  have e0 : (-1 : Int32) < (fun kd => goR (upd V (16 + 11 * cl x + 0) (nI kd)) j 7) 0 := by
    obtain ⟨t, ht, et⟩ := h7
    obtain ⟨a, ha, e1, _⟩ := go7 (W := upd V (16 + 11 * cl x + 0) (nI 0)) (hNV.uk ⟨0, by omega, rfl⟩) (upd_inv hIV (by omega) (fun k hk => by omega)) ht (by rw [pk_un (by omega), h.2, et]) j (by omega)
    show _ < goR _ j 7
    rw [e1]
    rw [Int32.lt_iff_toInt_lt, nI_toInt (by omega)]
    have : (-1 : Int32).toInt = -1 := rfl
    omega
  rw [mx_b (b := 0) e0 5, mx_cg (v := fun kd => goR (upd V (16 + 11 * cl x + 0) (nI kd)) j 7) (v' := fun kd => goR (upd W (16 + 11 * cl x + 0) (nI kd)) j 7) _ (fun q hq => (h.up (by omega)).1.go7 (h.up (by omega)).2 (upd_inv hI (by omega) (fun k hk => by omega)) _)]
theorem EQ.q_enough (h : EQ V W) (hI : InvR W) {x p : Int32} : enoX V x p = enoughX W x p := by
  unfold enoX enoughX
  rw [h.h6]
  refine ite_c fun c => ?_
  have hp := p7_k c.2
  have e : (fun v => decide (rol (upd V (16 + 11 * cl x + (3 + cl p)) (nI v)) (cl x) = p)) = fun v => decide (rol (upd W (16 + 11 * cl x + (3 + cl p)) (nI v)) (cl x) = p) := funext fun v => by
    rw [(h.up (i := 16 + 11 * cl x + (3 + cl p)) (x := nI v) (by omega)).1.ro (upd_inv hI (by omega) (fun k hk => by omega))]
  rw [e]
theorem EQ.q_few (h : EQ V W) (hI : InvR W) {v : Int32} : ∀ n, fewR V v n = fewR W v n
  | 0 => rfl
  | n + 1 => by
    rw [fewR, fewR, EQ.q_few h hI n, h.1.ill _ (by rw [h.1.pl]; exact Nat.le_refl _), h.1.pl, (h.1.wel _).sB (welR_inv hI _ _ hI.pl.1)]
theorem EQ.q_fewestX (h : EQ V W) (hI : InvR W) {v : Int32} : fewestX V v = fewestX W v := by
  unfold fewestX
  rw [h.1.pl, h.q_few hI]
theorem EQ.q_sp (h : EQ V W) (hI : InvR W) : ∀ i, spR V i = spR W i
  | 0 => by rw [spR, spR, h.lo (by omega)]
  | i + 1 => by
    have hi : InvR (upd W 5 (spR W i).2) := upd_inv hI (by omega) (fun k hk => by omega)
    have e := (h.up (i := 5) (x := (spR W i).2) (by omega)).thr hi
    rw [spR, spR, EQ.q_sp h hI i, e.1.sB (thrR_inv hi), e.lo (i := 5) (by omega), h.1.sB hI]
theorem EQ.q_spoiltX (h : EQ V W) (hI : InvR W) {n : Int32} : spoiltX V n = spoiltX W n := by
  unfold spoiltX
  rw [h.q_sp hI]
theorem fitR_e {it : Nat → Int32} (h : eqv V W) (hI : InvR W) : ∀ n, (fitR V it n).1 = (fitR W it n).1 ∧ eqv (fitR V it n).2 (fitR W it n).2
  | 0 => ⟨rfl, h⟩
  | n + 1 => by
    obtain ⟨e1, e2⟩ := fitR_e (it := it) h hI n
    rw [fitR, fitR, e1]
    by_cases c : (fitR W it n).1 = true
    · rw [if_pos c, if_pos c]
      exact ⟨by dsimp only; rw [e2.sB (fitR_inv hI n)], e2.night (fitR_inv hI n)⟩
    · rw [if_neg c, if_neg c]
      exact ⟨e1, e2⟩
theorem fitB_e {it : Nat → Int32} {k n : Nat} (h : eqv V W) (hI : InvR W) (hk : k < plR W) : fitB V k it n = fitB W k it n := funext fun v => by
  unfold fitB ownV
  have h8 := hI.pl.1
  have ho := hI.own k (by omega)
  rw [h.ow hk]
  exact (fitR_e (h.up (by omega)) (ownV_inv hI (by omega)) n).1
theorem EQ.q_fitsX (h : EQ V W) (hI : InvR W) {so sz it : Nat → Int32} {a x w : Int32} : fitsX V so sz it a x w = fitsX W so sz it a x w := by
  unfold fitsX
  rw [h.h6]
  refine ite_c fun c => ?_
  rw [fitB_e h.1 hI (inPl_k hI c.2.1)]
