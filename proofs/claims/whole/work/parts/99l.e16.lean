/-! ===== each call, on both sides ===== -/
/-- the class's call and then the reference's, from S: the answers are the same, and the relation holds again -/
def TwI (g : pG) (mC mR : pM) (dC dR : Nat) (av : List Value) (S : pS) : Prop := ∃ PC : Int32 → pS → Prop, MS g mC dC 0 0 (.ref 0 :: av) S (eI PC) ∧ ∀ x S1, PC x S1 → sOk S1 ∧ ∃ PR : Int32 → pS → Prop, MS g mR dR 0 0 (.ref 54 :: av) S1 (eI PR) ∧ ∀ y S2, PR y S2 → y = x ∧ sOk S2 ∧ RS S2
def TwL (g : pG) (mC mR : pM) (dC dR : Nat) (av : List Value) (S : pS) : Prop := ∃ x : Int64, MS g mC dC 0 0 (.ref 0 :: av) S (dL x S) ∧ MS g mR dR 0 0 (.ref 54 :: av) S (dL x S)
theorem c6.shI {S : pS} (h : c6 S) {S1 : pS} (e : S1.2.2.2 66 = S.2.2.2 66) : ShI S1 := fun j hj => by
  rw [e]
  exact (h.2 j hj).2
theorem tw_set (g : pG) {S : pS} (hS : sOk S) (h : RS S) (a : Int32) (v : Int32) : TwI g mX11_set mX12_set 2 3 [.int a, .int v] S := by
  obtain ⟨⟨hE, hC, hD⟩, q2, q3, q4, q5, q6, q7, q8⟩ := h
  have h : RS S := ⟨⟨hE, hC, hD⟩, q2, q3, q4, q5, q6, q7, q8⟩
  refine ⟨_, s_X11_set g hS hC.1 hC.2.1 a v, fun x1 S1 q => ?_⟩
  obtain ⟨e1, f1, v1⟩ := q
  have e55 : S1.2.2.2 55 = S.2.2.2 55 := f1.2 55 (by decide)
  refine ⟨f1.ok hS, _, s_X12_set g (f1.ok hS) (by rw [e55]; exact hD.1) a v, fun y1 S2 q => ?_⟩
  obtain ⟨e2, k2, v2⟩ := q
  have ff : FF _ _ [] S S1 S2 := ⟨f1, k2.kq⟩
  refine ⟨?_, k2.1, h.wr ff (by decide) (by decide) v1 v2 ?_ ?_ ?_⟩
  · rw [e1, e2, e55]
    exact hE.q_setX.symm
  · rw [e55]; exact hE.q_setW
  · exact hC.c_setW
  · rw [e55]; exact hD.c_setW
theorem tw_lawOf (g : pG) {S : pS} (hS : sOk S) (h : RS S) (a : Int32) : TwI g mX11_lawOf mX12_lawOf 2 3 [.int a] S := by
  obtain ⟨⟨hE, hC, hD⟩, q2, q3, q4, q5, q6, q7, q8⟩ := h
  have h : RS S := ⟨⟨hE, hC, hD⟩, q2, q3, q4, q5, q6, q7, q8⟩
  refine ⟨_, s_X11_lawOf g hS hC.1 hC.2.1 a, fun x1 S1 q => ?_⟩
  obtain ⟨e1, f1⟩ := q
  have e55 : S1.2.2.2 55 = S.2.2.2 55 := f1.2 55 (by decide)
  refine ⟨f1.ok hS, _, s_X12_lawOf g (f1.ok hS) (by rw [e55]; exact hD.1) a, fun y1 S2 q => ?_⟩
  obtain ⟨e2, k2⟩ := q
  have ff : FF _ _ [] S S1 S2 := ⟨f1, k2.kq⟩
  refine ⟨?_, k2.1, h.ro ff (by decide) (by decide) (ff.k2 (by unfold okK; decide) (by unfold off; decide) q2)⟩
  · rw [e1, e2, e55]
    exact hE.q_lawX.symm
theorem tw_weigh (g : pG) {S : pS} (hS : sOk S) (h : RS S) (p : Int32) (v : Int32) : TwI g mX11_weigh mX12_weigh 2 3 [.int p, .int v] S := by
  obtain ⟨⟨hE, hC, hD⟩, q2, q3, q4, q5, q6, q7, q8⟩ := h
  have h : RS S := ⟨⟨hE, hC, hD⟩, q2, q3, q4, q5, q6, q7, q8⟩
  refine ⟨_, s_X11_weigh g hS hC.1 hC.2.1 p v, fun x1 S1 q => ?_⟩
  obtain ⟨e1, f1, v1⟩ := q
  have e55 : S1.2.2.2 55 = S.2.2.2 55 := f1.2 55 (by decide)
  refine ⟨f1.ok hS, _, s_X12_weigh g (f1.ok hS) (by rw [e55]; exact hD.1) p v, fun y1 S2 q => ?_⟩
  obtain ⟨e2, k2, v2⟩ := q
  have ff : FF _ _ [] S S1 S2 := ⟨f1, k2.kq⟩
  refine ⟨?_, k2.1, h.wr ff (by decide) (by decide) v1 v2 ?_ ?_ ?_⟩
  · rw [e1, e2, e55]
    exact hE.q_weighX.symm
  · rw [e55]; exact hE.q_weighW
  · exact hC.c_weighW
  · rw [e55]; exact hD.c_weighW
theorem tw_partOf (g : pG) {S : pS} (hS : sOk S) (h : RS S) (p : Int32) (w : Int32) : TwI g mX11_partOf mX12_partOf 4 5 [.int p, .int w] S := by
  obtain ⟨⟨hE, hC, hD⟩, q2, q3, q4, q5, q6, q7, q8⟩ := h
  have h : RS S := ⟨⟨hE, hC, hD⟩, q2, q3, q4, q5, q6, q7, q8⟩
  refine ⟨_, s_X11_partOf g hS hC.1 hC.2.1 p w, fun x1 S1 q => ?_⟩
  obtain ⟨e1, f1⟩ := q
  have e55 : S1.2.2.2 55 = S.2.2.2 55 := f1.2 55 (by decide)
  refine ⟨f1.ok hS, _, s_X12_partOf g (f1.ok hS) (by rw [e55]; exact hD.1) p w, fun y1 S2 q => ?_⟩
  obtain ⟨e2, k2⟩ := q
  have ff : FF _ _ [] S S1 S2 := ⟨f1, k2.kq⟩
  refine ⟨?_, k2.1, h.ro ff (by decide) (by decide) (ff.k2 (by unfold okK; decide) (by unfold off; decide) q2)⟩
  · rw [e1, e2, e55]
    exact (hE.q_partX hD.1).symm
theorem tw_player (g : pG) {S : pS} (hS : sOk S) (h : RS S) (kd : Int32) (p : Int32) : TwI g mX11_player mX12_player 4 3 [.int kd, .int p] S := by
  obtain ⟨⟨hE, hC, hD⟩, q2, q3, q4, q5, q6, q7, q8⟩ := h
  have h : RS S := ⟨⟨hE, hC, hD⟩, q2, q3, q4, q5, q6, q7, q8⟩
  refine ⟨_, s_X11_player g hS hC.1 hC.2.1 kd p, fun x1 S1 q => ?_⟩
  obtain ⟨e1, f1, v1⟩ := q
  have e55 : S1.2.2.2 55 = S.2.2.2 55 := f1.2 55 (by decide)
  refine ⟨f1.ok hS, _, s_X12_player g (f1.ok hS) (by rw [e55]; exact hD.1) kd p, fun y1 S2 q => ?_⟩
  obtain ⟨e2, k2, v2⟩ := q
  have ff : FF _ _ [] S S1 S2 := ⟨f1, k2.kq⟩
  refine ⟨?_, k2.1, h.wr ff (by decide) (by decide) v1 v2 ?_ ?_ ?_⟩
  · rw [e1, e2, e55]
    exact hE.q_playerX.symm
  · rw [e55]; exact hE.q_playerW hD.1
  · exact hC.c_playerW
  · rw [e55]; exact hD.c_playerW
theorem tw_of (g : pG) {S : pS} (hS : sOk S) (h : RS S) (x : Int32) (w : Int32) : TwI g mX11_of mX12_of 4 5 [.int x, .int w] S := by
  obtain ⟨⟨hE, hC, hD⟩, q2, q3, q4, q5, q6, q7, q8⟩ := h
  have h : RS S := ⟨⟨hE, hC, hD⟩, q2, q3, q4, q5, q6, q7, q8⟩
  refine ⟨_, s_X11_of g hS hC.1 hC.2.1 x w, fun x1 S1 q => ?_⟩
  obtain ⟨e1, f1⟩ := q
  have e55 : S1.2.2.2 55 = S.2.2.2 55 := f1.2 55 (by decide)
  refine ⟨f1.ok hS, _, s_X12_of g (f1.ok hS) (by rw [e55]; exact hD.1) x w, fun y1 S2 q => ?_⟩
  obtain ⟨e2, k2⟩ := q
  have ff : FF _ _ [] S S1 S2 := ⟨f1, k2.kq⟩
  refine ⟨?_, k2.1, h.ro ff (by decide) (by decide) (ff.k2 (by unfold okK; decide) (by unfold off; decide) q2)⟩
  · rw [e1, e2, e55]
    exact (hE.q_ofX hD.1).symm
theorem tw_knows (g : pG) {S : pS} (hS : sOk S) (h : RS S) (x : Int32) (p : Int32) : TwI g mX11_knows mX12_knows 2 3 [.int x, .int p] S := by
  obtain ⟨⟨hE, hC, hD⟩, q2, q3, q4, q5, q6, q7, q8⟩ := h
  have h : RS S := ⟨⟨hE, hC, hD⟩, q2, q3, q4, q5, q6, q7, q8⟩
  refine ⟨_, s_X11_knows g hS hC.1 hC.2.1 x p, fun x1 S1 q => ?_⟩
  obtain ⟨e1, f1⟩ := q
  have e55 : S1.2.2.2 55 = S.2.2.2 55 := f1.2 55 (by decide)
  refine ⟨f1.ok hS, _, s_X12_knows g (f1.ok hS) (by rw [e55]; exact hD.1) x p, fun y1 S2 q => ?_⟩
  obtain ⟨e2, k2⟩ := q
  have ff : FF _ _ [] S S1 S2 := ⟨f1, k2.kq⟩
  refine ⟨?_, k2.1, h.ro ff (by decide) (by decide) (ff.k2 (by unfold okK; decide) (by unfold off; decide) q2)⟩
  · rw [e1, e2, e55]
    exact (hE.q_knowsX hD.1).symm
theorem tw_does (g : pG) {S : pS} (hS : sOk S) (h : RS S) (x : Int32) (p : Int32) (w : Int32) : TwI g mX11_does mX12_does 2 3 [.int x, .int p, .int w] S := by
  obtain ⟨⟨hE, hC, hD⟩, q2, q3, q4, q5, q6, q7, q8⟩ := h
  have h : RS S := ⟨⟨hE, hC, hD⟩, q2, q3, q4, q5, q6, q7, q8⟩
  refine ⟨_, s_X11_does g hS hC.1 hC.2.1 x p w, fun x1 S1 q => ?_⟩
  obtain ⟨e1, f1⟩ := q
  have e55 : S1.2.2.2 55 = S.2.2.2 55 := f1.2 55 (by decide)
  refine ⟨f1.ok hS, _, s_X12_does g (f1.ok hS) (by rw [e55]; exact hD.1) x p w, fun y1 S2 q => ?_⟩
  obtain ⟨e2, k2⟩ := q
  have ff : FF _ _ [] S S1 S2 := ⟨f1, k2.kq⟩
  refine ⟨?_, k2.1, h.ro ff (by decide) (by decide) (ff.k2 (by unfold okK; decide) (by unfold off; decide) q2)⟩
  · rw [e1, e2, e55]
    exact (hE.q_doesX hD.1).symm
theorem tw_mind (g : pG) {S : pS} (hS : sOk S) (h : RS S) (x : Int32) (kd : Int32) : TwI g mX11_mind mX12_mind 2 3 [.int x, .int kd] S := by
  obtain ⟨⟨hE, hC, hD⟩, q2, q3, q4, q5, q6, q7, q8⟩ := h
  have h : RS S := ⟨⟨hE, hC, hD⟩, q2, q3, q4, q5, q6, q7, q8⟩
  refine ⟨_, s_X11_mind g hS hC.1 hC.2.1 x kd, fun x1 S1 q => ?_⟩
  obtain ⟨e1, f1, v1⟩ := q
  have e55 : S1.2.2.2 55 = S.2.2.2 55 := f1.2 55 (by decide)
  refine ⟨f1.ok hS, _, s_X12_mind g (f1.ok hS) (by rw [e55]; exact hD.1) x kd, fun y1 S2 q => ?_⟩
  obtain ⟨e2, k2, v2⟩ := q
  have ff : FF _ _ [] S S1 S2 := ⟨f1, k2.kq⟩
  refine ⟨?_, k2.1, h.wr ff (by decide) (by decide) v1 v2 ?_ ?_ ?_⟩
  · rw [e1, e2, e55]
    exact (hE.q_mindX hD.1).symm
  · rw [e55]; exact hE.q_mindW
  · exact hC.c_mindW
  · rw [e55]; exact hD.c_mindW
theorem tw_teach (g : pG) {S : pS} (hS : sOk S) (h : RS S) (x : Int32) (p : Int32) (v : Int32) : TwI g mX11_teach mX12_teach 3 3 [.int x, .int p, .int v] S := by
  obtain ⟨⟨hE, hC, hD⟩, q2, q3, q4, q5, q6, q7, q8⟩ := h
  have h : RS S := ⟨⟨hE, hC, hD⟩, q2, q3, q4, q5, q6, q7, q8⟩
  refine ⟨_, s_X11_teach g hS hC.1 hC.2.1 x p v, fun x1 S1 q => ?_⟩
  obtain ⟨e1, f1, v1⟩ := q
  have e55 : S1.2.2.2 55 = S.2.2.2 55 := f1.2 55 (by decide)
  refine ⟨f1.ok hS, _, s_X12_teach g (f1.ok hS) (by rw [e55]; exact hD.1) x p v, fun y1 S2 q => ?_⟩
  obtain ⟨e2, k2, v2⟩ := q
  have ff : FF _ _ [] S S1 S2 := ⟨f1, k2.kq⟩
  refine ⟨?_, k2.1, h.wr ff (by decide) (by decide) v1 v2 ?_ ?_ ?_⟩
  · rw [e1, e2, e55]
    exact (hE.q_teachX hD.1).symm
  · rw [e55]; exact hE.q_teachW
  · exact hC.c_teachW
  · rw [e55]; exact hD.c_teachW
theorem tw_sick (g : pG) {S : pS} (hS : sOk S) (h : RS S) (x : Int32) (v : Int32) : TwI g mX11_sick mX12_sick 2 3 [.int x, .int v] S := by
  obtain ⟨⟨hE, hC, hD⟩, q2, q3, q4, q5, q6, q7, q8⟩ := h
  have h : RS S := ⟨⟨hE, hC, hD⟩, q2, q3, q4, q5, q6, q7, q8⟩
  refine ⟨_, s_X11_sick g hS hC.1 hC.2.1 x v, fun x1 S1 q => ?_⟩
  obtain ⟨e1, f1, v1⟩ := q
  have e55 : S1.2.2.2 55 = S.2.2.2 55 := f1.2 55 (by decide)
  refine ⟨f1.ok hS, _, s_X12_sick g (f1.ok hS) (by rw [e55]; exact hD.1) x v, fun y1 S2 q => ?_⟩
  obtain ⟨e2, k2, v2⟩ := q
  have ff : FF _ _ [] S S1 S2 := ⟨f1, k2.kq⟩
  refine ⟨?_, k2.1, h.wr ff (by decide) (by decide) v1 v2 ?_ ?_ ?_⟩
  · rw [e1, e2, e55]
    exact (hE.q_sickX hD.1).symm
  · rw [e55]; exact hE.q_sickW
  · exact hC.c_sickW
  · rw [e55]; exact hD.c_sickW
theorem tw_nights (g : pG) {S : pS} (hS : sOk S) (h : RS S) (n : Int32) : TwI g mX11_nights mX12_nights 5 8 [.int n] S := by
  obtain ⟨⟨hE, hC, hD⟩, q2, q3, q4, q5, q6, q7, q8⟩ := h
  have h : RS S := ⟨⟨hE, hC, hD⟩, q2, q3, q4, q5, q6, q7, q8⟩
  refine ⟨_, s_X11_nights g hS hC.1 hC.2.1 n, fun x1 S1 q => ?_⟩
  obtain ⟨e1, f1, v1⟩ := q
  have e55 : S1.2.2.2 55 = S.2.2.2 55 := f1.2 55 (by decide)
  refine ⟨f1.ok hS, _, s_X12_nights g (f1.ok hS) (by rw [e55]; exact hD.1) n, fun y1 S2 q => ?_⟩
  obtain ⟨e2, k2, v2⟩ := q
  have ff : FF _ _ [] S S1 S2 := ⟨f1, k2.kq⟩
  refine ⟨?_, k2.1, h.wr ff (by decide) (by decide) v1 v2 ?_ ?_ ?_⟩
  · rw [e1, e2, e55]
    exact (hE.q_nigX hC.2.1 hC.1 hD.1 hD.2.2).symm
  · rw [e55]; exact hE.q_nigW hC.2.1 hC.1 hD.1 hD.2.2
  · exact hC.c_nigW
  · rw [e55]; exact hD.c_nightsW
theorem tw_seed (g : pG) {S : pS} (hS : sOk S) (h : RS S) (v : Int32) : TwI g mX11_seed mX12_seed 1 2 [.int v] S := by
  obtain ⟨⟨hE, hC, hD⟩, q2, q3, q4, q5, q6, q7, q8⟩ := h
  have h : RS S := ⟨⟨hE, hC, hD⟩, q2, q3, q4, q5, q6, q7, q8⟩
  refine ⟨_, s_X11_seed g hS v, fun x1 S1 q => ?_⟩
  obtain ⟨e1, f1, v1⟩ := q
  have e55 : S1.2.2.2 55 = S.2.2.2 55 := f1.2 55 (by decide)
  refine ⟨f1.ok hS, _, s_X12_seed g (f1.ok hS) (by rw [e55]; exact hD.1) v, fun y1 S2 q => ?_⟩
  obtain ⟨e2, k2, v2⟩ := q
  have ff : FF _ _ [] S S1 S2 := ⟨f1, k2.kq⟩
  refine ⟨?_, k2.1, h.wr ff (by decide) (by decide) v1 v2 ?_ ?_ ?_⟩
  · rw [e1, e2, e55]
    exact (hE.lo (i := 5) (by omega)).symm
  · rw [e55]; exact hE.up (by omega)
  · exact hC.c_u5
  · rw [e55]; exact hD.c_u5
theorem tw_night (g : pG) {S : pS} (hS : sOk S) (h : RS S) : TwI g mX11_night mX12_night 5 8 [] S := by
  obtain ⟨⟨hE, hC, hD⟩, q2, q3, q4, q5, q6, q7, q8⟩ := h
  have h : RS S := ⟨⟨hE, hC, hD⟩, q2, q3, q4, q5, q6, q7, q8⟩
  refine ⟨_, s_X11_night g hS hC.1 hC.2.1, fun x1 S1 q => ?_⟩
  obtain ⟨e1, f1, v1⟩ := q
  have e55 : S1.2.2.2 55 = S.2.2.2 55 := f1.2 55 (by decide)
  refine ⟨f1.ok hS, _, s_X12_night g (f1.ok hS) (by rw [e55]; exact hD.1), fun y1 S2 q => ?_⟩
  obtain ⟨e2, k2, v2⟩ := q
  have ff : FF _ _ [] S S1 S2 := ⟨f1, k2.kq⟩
  refine ⟨?_, k2.1, h.wr ff (by decide) (by decide) v1 v2 ?_ ?_ ?_⟩
  · rw [e1, e2, e55]
    exact (hE.q_nightX hD.1).symm
  · rw [e55]; exact hE.q_nightW hC.2.1 hC.1 hD.1 hD.2.2
  · exact hC.c_nightC
  · rw [e55]; exact hD.c_nightW
theorem tw_spoilt (g : pG) {S : pS} (hS : sOk S) (h : RS S) (n : Int32) : TwI g mX11_spoilt mX12_spoilt 6 8 [.int n] S := by
  obtain ⟨⟨hE, hC, hD⟩, q2, q3, q4, q5, q6, q7, q8⟩ := h
  have h : RS S := ⟨⟨hE, hC, hD⟩, q2, q3, q4, q5, q6, q7, q8⟩
  refine ⟨_, s_X11_spoilt g hS hC.1 hC.2.1 n, fun x1 S1 q => ?_⟩
  obtain ⟨e1, f1⟩ := q
  have e55 : S1.2.2.2 55 = S.2.2.2 55 := f1.1.2 55 (by decide)
  refine ⟨f1.1.ok hS, _, s_X12_spoilt g (f1.1.ok hS) (by rw [e55]; exact hD.1) n, fun y1 S2 q => ?_⟩
  obtain ⟨e2, k2⟩ := q
  have ff : FF _ _ [] S S1 S2 := ⟨f1.1, k2.kq⟩
  refine ⟨?_, k2.1, h.ro ff (by decide) (by decide) (f1.it ff.2 (by unfold okK; decide) q2)⟩
  · rw [e1, e2, e55]
    exact (hE.q_spoiltX hD.1).symm
theorem tw_state (g : pG) {S : pS} (hS : sOk S) (h : RS S) (w : Int32) : TwI g mX11_state mX12_state 4 6 [.int w] S := by
  obtain ⟨⟨hE, hC, hD⟩, q2, q3, q4, q5, q6, q7, q8⟩ := h
  have h : RS S := ⟨⟨hE, hC, hD⟩, q2, q3, q4, q5, q6, q7, q8⟩
  refine ⟨_, s_X11_state g hS hC.1 hC.2.1 w, fun x1 S1 q => ?_⟩
  obtain ⟨e1, f1⟩ := q
  have e55 : S1.2.2.2 55 = S.2.2.2 55 := f1.2 55 (by decide)
  refine ⟨f1.ok hS, _, s_X12_state g (f1.ok hS) (by rw [e55]; exact hD.1) w, fun y1 S2 q => ?_⟩
  obtain ⟨e2, k2⟩ := q
  have ff : FF _ _ [] S S1 S2 := ⟨f1, k2.kq⟩
  refine ⟨?_, k2.1, h.ro ff (by decide) (by decide) (ff.k2 (by unfold okK; decide) (by unfold off; decide) q2)⟩
  · rw [e1, e2, e55]
    exact (hE.q_stateX hD.1).symm
theorem tw_knew (g : pG) {S : pS} (hS : sOk S) (h : RS S) (x : Int32) (p : Int32) (n : Int32) : TwI g mX11_knew mX12_knew 7 9 [.int x, .int p, .int n] S := by
  obtain ⟨⟨hE, hC, hD⟩, q2, q3, q4, q5, q6, q7, q8⟩ := h
  have h : RS S := ⟨⟨hE, hC, hD⟩, q2, q3, q4, q5, q6, q7, q8⟩
  refine ⟨_, s_X11_knew g hS hC.1 hC.2.1 x p n, fun x1 S1 q => ?_⟩
  obtain ⟨e1, f1⟩ := q
  have e55 : S1.2.2.2 55 = S.2.2.2 55 := f1.1.2 55 (by decide)
  refine ⟨f1.1.ok hS, _, s_X12_knew g (f1.1.ok hS) (by rw [e55]; exact hD.1) x p n, fun y1 S2 q => ?_⟩
  obtain ⟨e2, k2⟩ := q
  have ff : FF _ _ [] S S1 S2 := ⟨f1.1, k2.kq⟩
  refine ⟨?_, k2.1, h.ro ff (by decide) (by decide) (f1.it ff.2 (by unfold okK; decide) q2)⟩
  · rw [e1, e2, e55]
    exact (hE.q_knewX hD.1).symm
theorem tw_earned (g : pG) {S : pS} (hS : sOk S) (h : RS S) (n : Int32) : TwI g mX11_earned mX12_earned 7 9 [.int n] S := by
  obtain ⟨⟨hE, hC, hD⟩, q2, q3, q4, q5, q6, q7, q8⟩ := h
  have h : RS S := ⟨⟨hE, hC, hD⟩, q2, q3, q4, q5, q6, q7, q8⟩
  refine ⟨_, s_X11_earned g hS hC.1 hC.2.1 n, fun x1 S1 q => ?_⟩
  obtain ⟨e1, f1⟩ := q
  have e55 : S1.2.2.2 55 = S.2.2.2 55 := f1.1.2 55 (by decide)
  refine ⟨f1.1.ok hS, _, s_X12_earned g (f1.1.ok hS) (by rw [e55]; exact hD.1) n, fun y1 S2 q => ?_⟩
  obtain ⟨e2, k2⟩ := q
  have ff : FF _ _ [] S S1 S2 := ⟨f1.1, k2.kq⟩
  refine ⟨?_, k2.1, h.ro ff (by decide) (by decide) (f1.it ff.2 (by unfold okK; decide) q2)⟩
  · rw [e1, e2, e55]
    exact (hE.q_earnedX hD.1).symm
theorem tw_plays (g : pG) {S : pS} (hS : sOk S) (h : RS S) (x : Int32) (p : Int32) : TwI g mX11_plays mX12_plays 6 9 [.int x, .int p] S := by
  obtain ⟨⟨hE, hC, hD⟩, q2, q3, q4, q5, q6, q7, q8⟩ := h
  have h : RS S := ⟨⟨hE, hC, hD⟩, q2, q3, q4, q5, q6, q7, q8⟩
  refine ⟨_, s_X11_plays g hS hC.1 hC.2.1 x p, fun x1 S1 q => ?_⟩
  obtain ⟨e1, f1⟩ := q
  have e55 : S1.2.2.2 55 = S.2.2.2 55 := f1.1.2 55 (by decide)
  refine ⟨f1.1.ok hS, _, s_X12_plays g (f1.1.ok hS) (by rw [e55]; exact hD.1) x p, fun y1 S2 q => ?_⟩
  obtain ⟨e2, k2⟩ := q
  have ff : FF _ _ [] S S1 S2 := ⟨f1.1, k2.kq⟩
  refine ⟨?_, k2.1, h.ro ff (by decide) (by decide) (f1.it ff.2 (by unfold okK; decide) q2)⟩
  · rw [e1, e2, e55]
    exact (hE.q_playsX hD.1).symm
theorem tw_house (g : pG) {S : pS} (hS : sOk S) (h : RS S) : TwI g mX11_house mX12_house 6 9 [] S := by
  obtain ⟨⟨hE, hC, hD⟩, q2, q3, q4, q5, q6, q7, q8⟩ := h
  have h : RS S := ⟨⟨hE, hC, hD⟩, q2, q3, q4, q5, q6, q7, q8⟩
  refine ⟨_, s_X11_house g hS hC.1 hC.2.1, fun x1 S1 q => ?_⟩
  obtain ⟨e1, f1⟩ := q
  have e55 : S1.2.2.2 55 = S.2.2.2 55 := f1.1.2 55 (by decide)
  refine ⟨f1.1.ok hS, _, s_X12_house g (f1.1.ok hS) (by rw [e55]; exact hD.1), fun y1 S2 q => ?_⟩
  obtain ⟨e2, k2⟩ := q
  have ff : FF _ _ [] S S1 S2 := ⟨f1.1, k2.kq⟩
  refine ⟨?_, k2.1, h.ro ff (by decide) (by decide) (f1.it ff.2 (by unfold okK; decide) q2)⟩
  · rw [e1, e2, e55]
    exact (hE.q_houseR hD.1).symm
theorem tw_worst (g : pG) {S : pS} (hS : sOk S) (h : RS S) : TwI g mX11_worst mX12_worst 6 6 [] S := by
  obtain ⟨⟨hE, hC, hD⟩, q2, q3, q4, q5, q6, q7, q8⟩ := h
  have h : RS S := ⟨⟨hE, hC, hD⟩, q2, q3, q4, q5, q6, q7, q8⟩
  refine ⟨_, s_X11_worst g hS hC.1 hC.2.1, fun x1 S1 q => ?_⟩
  obtain ⟨e1, f1⟩ := q
  have e55 : S1.2.2.2 55 = S.2.2.2 55 := f1.1.2 55 (by decide)
  refine ⟨f1.1.ok hS, _, s_X12_worst g (f1.1.ok hS) (by rw [e55]; exact hD.1), fun y1 S2 q => ?_⟩
  obtain ⟨e2, k2⟩ := q
  have ff : FF _ _ [] S S1 S2 := ⟨f1.1, k2.kq⟩
  refine ⟨?_, k2.1, h.ro ff (by decide) (by decide) (f1.it ff.2 (by unfold okK; decide) q2)⟩
  · rw [e1, e2, e55]
    exact (hE.q_worstX hD.1).symm
theorem tw_kindFor (g : pG) {S : pS} (hS : sOk S) (h : RS S) (x : Int32) (n : Int32) : TwI g mX11_kindFor mX12_kindFor 7 9 [.int x, .int n] S := by
  obtain ⟨⟨hE, hC, hD⟩, q2, q3, q4, q5, q6, q7, q8⟩ := h
  have h : RS S := ⟨⟨hE, hC, hD⟩, q2, q3, q4, q5, q6, q7, q8⟩
  refine ⟨_, s_X11_kindFor g hS hC.1 hC.2.1 x n, fun x1 S1 q => ?_⟩
  obtain ⟨e1, f1⟩ := q
  have e55 : S1.2.2.2 55 = S.2.2.2 55 := f1.1.2 55 (by decide)
  refine ⟨f1.1.ok hS, _, s_X12_kindFor g (f1.1.ok hS) (by rw [e55]; exact hD.1) x n, fun y1 S2 q => ?_⟩
  obtain ⟨e2, k2⟩ := q
  have ff : FF _ _ [] S S1 S2 := ⟨f1.1, k2.kq⟩
  refine ⟨?_, k2.1, h.ro ff (by decide) (by decide) (f1.it ff.2 (by unfold okK; decide) q2)⟩
  · rw [e1, e2, e55]
    exact (hE.q_kin hC.2.1 hC.1 hD.1 hD.2.2).symm
theorem tw_enoughFor (g : pG) {S : pS} (hS : sOk S) (h : RS S) (x : Int32) (p : Int32) : TwI g mX11_enoughFor mX12_enoughFor 5 5 [.int x, .int p] S := by
  obtain ⟨⟨hE, hC, hD⟩, q2, q3, q4, q5, q6, q7, q8⟩ := h
  have h : RS S := ⟨⟨hE, hC, hD⟩, q2, q3, q4, q5, q6, q7, q8⟩
  refine ⟨_, s_X11_enoughFor g hS hC.1 hC.2.1 x p, fun x1 S1 q => ?_⟩
  obtain ⟨e1, f1⟩ := q
  have e55 : S1.2.2.2 55 = S.2.2.2 55 := f1.1.2 55 (by decide)
  refine ⟨f1.1.ok hS, _, s_X12_enoughFor g (f1.1.ok hS) (by rw [e55]; exact hD.1) x p, fun y1 S2 q => ?_⟩
  obtain ⟨e2, k2⟩ := q
  have ff : FF _ _ [] S S1 S2 := ⟨f1.1, k2.kq⟩
  refine ⟨?_, k2.1, h.ro ff (by decide) (by decide) (f1.it ff.2 (by unfold okK; decide) q2)⟩
  · rw [e1, e2, e55]
    exact (hE.q_enough hD.1).symm
theorem tw_learnerFor (g : pG) {S : pS} (hS : sOk S) (h : RS S) (p : Int32) (n : Int32) : TwI g mX11_learnerFor mX12_learnerFor 7 9 [.int p, .int n] S := by
  obtain ⟨⟨hE, hC, hD⟩, q2, q3, q4, q5, q6, q7, q8⟩ := h
  have h : RS S := ⟨⟨hE, hC, hD⟩, q2, q3, q4, q5, q6, q7, q8⟩
  refine ⟨_, s_X11_learnerFor g hS hC.1 hC.2.1 p n, fun x1 S1 q => ?_⟩
  obtain ⟨e1, f1⟩ := q
  have e55 : S1.2.2.2 55 = S.2.2.2 55 := f1.1.2 55 (by decide)
  refine ⟨f1.1.ok hS, _, s_X12_learnerFor g (f1.1.ok hS) (by rw [e55]; exact hD.1) p n, fun y1 S2 q => ?_⟩
  obtain ⟨e2, k2⟩ := q
  have ff : FF _ _ [] S S1 S2 := ⟨f1.1, k2.kq⟩
  refine ⟨?_, k2.1, h.ro ff (by decide) (by decide) (f1.it ff.2 (by unfold okK; decide) q2)⟩
  · rw [e1, e2, e55]
    exact (hE.q_learnerX hD.1).symm
theorem tw_fewestFor (g : pG) {S : pS} (hS : sOk S) (h : RS S) (v : Int32) : TwI g mX11_fewestFor mX12_fewestFor 7 7 [.int v] S := by
  obtain ⟨⟨hE, hC, hD⟩, q2, q3, q4, q5, q6, q7, q8⟩ := h
  have h : RS S := ⟨⟨hE, hC, hD⟩, q2, q3, q4, q5, q6, q7, q8⟩
  refine ⟨_, s_X11_fewestFor g hS hC.1 hC.2.1 v, fun x1 S1 q => ?_⟩
  obtain ⟨e1, f1⟩ := q
  have e55 : S1.2.2.2 55 = S.2.2.2 55 := f1.1.2 55 (by decide)
  refine ⟨f1.1.ok hS, _, s_X12_fewestFor g (f1.1.ok hS) (by rw [e55]; exact hD.1) v, fun y1 S2 q => ?_⟩
  obtain ⟨e2, k2⟩ := q
  have ff : FF _ _ [] S S1 S2 := ⟨f1.1, k2.kq⟩
  refine ⟨?_, k2.1, h.ro ff (by decide) (by decide) (f1.it ff.2 (by unfold okK; decide) q2)⟩
  · rw [e1, e2, e55]
    exact (hE.q_fewestX hD.1).symm
theorem tw_fits (g : pG) {S : pS} (hS : sOk S) (h : RS S) (a : Int32) (x : Int32) (w : Int32) : TwI g mX11_fits mX12_fits 7 8 [.int a, .int x, .int w] S := by
  obtain ⟨⟨hE, hC, hD⟩, q2, q3, q4, q5, q6, q7, q8⟩ := h
  have h : RS S := ⟨⟨hE, hC, hD⟩, q2, q3, q4, q5, q6, q7, q8⟩
  refine ⟨_, s_X11_fits g hS hC.1 hC.2.1 q6.2 q6.1 a x w, fun x1 S1 q => ?_⟩
  obtain ⟨e1, f1, ok1⟩ := q
  have e55 : S1.2.2.2 55 = S.2.2.2 55 := f1.1.2 55 (by decide)
  have e65 : S1.2.2.2 65 = S.2.2.2 65 := f1.1.2 65 (by decide)
  have e66 : S1.2.2.2 66 = S.2.2.2 66 := f1.1.2 66 (by decide)
  have e67 : S1.2.2.2 67 = S.2.2.2 67 := f1.1.2 67 (by decide)
  refine ⟨f1.1.ok hS, _, s_X12_fits g (f1.1.ok hS) (by rw [e55]; exact hD.1) (q6.shI e66) a x w, fun y1 S2 q => ?_⟩
  obtain ⟨e2, k2⟩ := q
  have ff : FF _ _ [] S S1 S2 := ⟨f1.1, k2.kq⟩
  refine ⟨?_, k2.1, h.ro ff (by decide) (by decide) (f1.it ff.2 (by unfold okK; decide) q2)⟩
  · rw [e1, e2, e55, e65, e66, e67]
    exact (hE.q_fitsX hD.1).symm
theorem tw_minds (g : pG) {S : pS} (hS : sOk S) (h : RS S) (a : Int32) (p : Int32) (x : Int32) (w : Int32) : TwI g mX11_minds mX12_minds 3 3 [.int a, .int p, .int x, .int w] S := by
  obtain ⟨⟨hE, hC, hD⟩, q2, q3, q4, q5, q6, q7, q8⟩ := h
  have h : RS S := ⟨⟨hE, hC, hD⟩, q2, q3, q4, q5, q6, q7, q8⟩
  refine ⟨_, s_X11_minds g hS hC.1 hC.2.1 q6.2 q6.1 a p x w, fun x1 S1 q => ?_⟩
  obtain ⟨e1, f1, v1⟩ := q
  have e55 : S1.2.2.2 55 = S.2.2.2 55 := f1.2 55 (by decide)
  have e65 : S1.2.2.2 65 = S.2.2.2 65 := f1.2 65 (by decide)
  have e66 : S1.2.2.2 66 = S.2.2.2 66 := f1.2 66 (by decide)
  have e67 : S1.2.2.2 67 = S.2.2.2 67 := f1.2 67 (by decide)
  refine ⟨f1.ok hS, _, s_X12_minds g (f1.ok hS) (by rw [e55]; exact hD.1) (q6.shI e66) a p x w, fun y1 S2 q => ?_⟩
  obtain ⟨e2, k2, v2⟩ := q
  have ff : FF _ _ [] S S1 S2 := ⟨f1, k2.kq⟩
  refine ⟨?_, k2.1, h.wr ff (by decide) (by decide) v1 v2 ?_ ?_ ?_⟩
  · rw [e1, e2, e55, e65, e66]
    exact hE.q_mindsX.symm
  · rw [e55, e65, e66, e67]; exact hE.q_mindsW hD.1
  · exact hC.c_mindsW
  · rw [e55, e65, e66, e67]; exact hD.c_mindsW
theorem tw_item (g : pG) {S : pS} (hS : sOk S) (h : RS S) (a : Int32) (s : Int32) (i : Int32) : TwI g mX11_item mX12_item 2 3 [.int a, .int s, .int i] S := by
  obtain ⟨⟨hE, hC, hD⟩, q2, q3, q4, q5, q6, q7, q8⟩ := h
  have h : RS S := ⟨⟨hE, hC, hD⟩, q2, q3, q4, q5, q6, q7, q8⟩
  refine ⟨_, s_X11_item g hS q6.2 q6.1 a s i, fun x1 S1 q => ?_⟩
  obtain ⟨e1, f1⟩ := q
  have e55 : S1.2.2.2 55 = S.2.2.2 55 := f1.2 55 (by decide)
  have e65 : S1.2.2.2 65 = S.2.2.2 65 := f1.2 65 (by decide)
  have e66 : S1.2.2.2 66 = S.2.2.2 66 := f1.2 66 (by decide)
  have e67 : S1.2.2.2 67 = S.2.2.2 67 := f1.2 67 (by decide)
  refine ⟨f1.ok hS, _, s_X12_item g (f1.ok hS) (q6.shI e66) a s i, fun y1 S2 q => ?_⟩
  obtain ⟨e2, k2⟩ := q
  have ff : FF _ _ [] S S1 S2 := ⟨f1, k2.kq⟩
  refine ⟨?_, k2.1, h.ro ff (by decide) (by decide) (ff.k2 (by unfold okK; decide) (by unfold off; decide) q2)⟩
  · rw [e1, e2, e65, e66, e67]
theorem tw_taken (g : pG) {S : pS} (hS : sOk S) (h : RS S) (s : Int32) (a : Int32) : TwI g mX11_taken mX12_taken 3 4 [.int s, .int a] S := by
  obtain ⟨⟨hE, hC, hD⟩, q2, q3, q4, q5, q6, q7, q8⟩ := h
  have h : RS S := ⟨⟨hE, hC, hD⟩, q2, q3, q4, q5, q6, q7, q8⟩
  refine ⟨_, s_X11_taken g hS hC.1 hC.2.1 q7 s a, fun x1 S1 q => ?_⟩
  obtain ⟨e1, f1⟩ := q
  have e55 : S1.2.2.2 55 = S.2.2.2 55 := f1.2 55 (by decide)
  have e68 : S1.2.2.2 68 = S.2.2.2 68 := f1.2 68 (by decide)
  have e69 : S1.2.2.2 69 = S.2.2.2 69 := f1.2 69 (by decide)
  refine ⟨f1.ok hS, _, s_X12_taken g (f1.ok hS) (by rw [e55]; exact hD.1) s a, fun y1 S2 q => ?_⟩
  obtain ⟨e2, k2⟩ := q
  have ff : FF _ _ [] S S1 S2 := ⟨f1, k2.kq⟩
  refine ⟨?_, k2.1, h.ro ff (by decide) (by decide) (ff.k2 (by unfold okK; decide) (by unfold off; decide) q2)⟩
  · rw [e1, e2, e55, e68, e69]
    exact (hE.q_takenX hD.1).symm
theorem tw_row (g : pG) {S : pS} (hS : sOk S) (h : RS S) (i : Int32) (w : Int32) : TwI g mX11_row mX12_row 2 3 [.int i, .int w] S := by
  obtain ⟨⟨hE, hC, hD⟩, q2, q3, q4, q5, q6, q7, q8⟩ := h
  have h : RS S := ⟨⟨hE, hC, hD⟩, q2, q3, q4, q5, q6, q7, q8⟩
  have q5c := q5
  obtain ⟨e31, r, hr, r0, r54⟩ := q5
  refine ⟨_, s_X11_row g hS ⟨r, hr, r0⟩ i w, fun x1 S1 q => ?_⟩
  obtain ⟨e1, f1⟩ := q
  have e55 : S1.2.2.2 55 = S.2.2.2 55 := f1.2 55 (by decide)
  have e54 : S1.2.2.2 54 = S.2.2.2 54 := f1.2 54 (by decide)
  have e63 : S1.2.2.2 63 = S.2.2.2 63 := f1.2 63 (by decide)
  refine ⟨f1.ok hS, _, s_X12_row g (f1.ok hS) ⟨r, hr, (congrFun e54 17).trans r54⟩ i w, fun y1 S2 q => ?_⟩
  obtain ⟨e2, k2⟩ := q
  have ff : FF _ _ [] S S1 S2 := ⟨f1, k2.kq⟩
  refine ⟨?_, k2.1, h.ro ff (by decide) (by decide) (ff.k2 (by unfold okK; decide) (by unfold off; decide) q2)⟩
  · rw [e1, e2, e63, e54, r54, ← r0, e31]
theorem tw_judge (g : pG) {S : pS} (hS : sOk S) (h : RS S) (x : Int32) : TwI g mX11_judge mX12_judge 6 8 [.int x] S := by
  obtain ⟨⟨hE, hC, hD⟩, q2, q3, q4, q5, q6, q7, q8⟩ := h
  have h : RS S := ⟨⟨hE, hC, hD⟩, q2, q3, q4, q5, q6, q7, q8⟩
  have q5c := q5
  obtain ⟨e31, r, hr, r0, r54⟩ := q5
  refine ⟨_, s_X11_judge g hS hC.1 hC.2.1 ⟨r, hr, r0⟩ x, fun x1 S1 q => ?_⟩
  obtain ⟨e1, f1⟩ := q
  have e55 : S1.2.2.2 55 = S.2.2.2 55 := f1.1.2 55 (by decide)
  have e54 : S1.2.2.2 54 = S.2.2.2 54 := f1.1.2 54 (by decide)
  have e63 : S1.2.2.2 63 = S.2.2.2 63 := f1.1.2 63 (by decide)
  refine ⟨f1.1.ok hS, _, s_X12_judge g (f1.1.ok hS) (by rw [e55]; exact hD.1) ⟨r, hr, (congrFun e54 17).trans r54⟩ x, fun y1 S2 q => ?_⟩
  obtain ⟨e2, k2⟩ := q
  have ff : FF _ _ [] S S1 S2 := ⟨f1.1, k2.kq⟩
  refine ⟨?_, k2.1, h.ro ff (by decide) (by decide) (f1.it ff.2 (by unfold okK; decide) q2)⟩
  · rw [e1, e2, e55, e63, e54, r54, ← r0, ← e31]
    exact (hE.q_judgeX hD.1).symm
theorem tw_trace (g : pG) {S : pS} (hS : sOk S) (h : RS S) (i : Int32) : TwI g mX11_trace mX12_trace 1 2 [.int i] S := by
  obtain ⟨⟨hE, hC, hD⟩, q2, q3, q4, q5, q6, q7, q8⟩ := h
  have h : RS S := ⟨⟨hE, hC, hD⟩, q2, q3, q4, q5, q6, q7, q8⟩
  obtain ⟨e46, t8, ht8, t45, t54⟩ := q8
  refine ⟨_, s_X11_trace g hS ⟨t8, ht8, t45⟩ i, fun x1 S1 q => ?_⟩
  obtain ⟨e1, f1⟩ := q
  have e55 : S1.2.2.2 55 = S.2.2.2 55 := f1.2 55 (by decide)
  have e54 : S1.2.2.2 54 = S.2.2.2 54 := f1.2 54 (by decide)
  have e70 : S1.2.2.2 70 = S.2.2.2 70 := f1.2 70 (by decide)
  refine ⟨f1.ok hS, _, s_X12_trace g (f1.ok hS) ⟨t8, ht8, (congrFun e54 24).trans t54⟩ i, fun y1 S2 q => ?_⟩
  obtain ⟨e2, k2⟩ := q
  have ff : FF _ _ [] S S1 S2 := ⟨f1, k2.kq⟩
  refine ⟨?_, k2.1, h.ro ff (by decide) (by decide) (ff.k2 (by unfold okK; decide) (by unfold off; decide) q2)⟩
  · rw [e1, e2, e70, e54, t54, ← t45, e46]
theorem tw_many (g : pG) {S : pS} (hS : sOk S) (h : RS S) (w : Int32) : TwI g mX11_many mX12_many 4 6 [.int w] S := by
  obtain ⟨⟨hE, hC, hD⟩, q2, q3, q4, q5, q6, q7, q8⟩ := h
  have h : RS S := ⟨⟨hE, hC, hD⟩, q2, q3, q4, q5, q6, q7, q8⟩
  obtain ⟨e31, r, hr, r0, r54⟩ := q5
  obtain ⟨e46, t8, ht8, t45, t54⟩ := q8
  obtain ⟨⟨t, ht, t29, t549⟩, hB, hL⟩ := q4
  refine ⟨_, s_X11_many g hS hC.1 hC.2.1 w, fun x1 S1 q => ?_⟩
  obtain ⟨e1, f1⟩ := q
  have e55 : S1.2.2.2 55 = S.2.2.2 55 := f1.2 55 (by decide)
  have e54 : S1.2.2.2 54 = S.2.2.2 54 := f1.2 54 (by decide)
  refine ⟨f1.ok hS, _, s_X12_many g (f1.ok hS) (by rw [e55]; exact hD.1) w, fun y1 S2 q => ?_⟩
  obtain ⟨e2, k2⟩ := q
  have ff : FF _ _ [] S S1 S2 := ⟨f1, k2.kq⟩
  refine ⟨?_, k2.1, h.ro ff (by decide) (by decide) (ff.k2 (by unfold okK; decide) (by unfold off; decide) q2)⟩
  · rw [e1, e2, e55, e54, r54, t54, t549, ← r0, ← t45, ← t29]
    exact (hE.q_many hD.1).symm
theorem tw_hope (g : pG) {S : pS} (hS : sOk S) (h : RS S) (n w : Int32) : TwL g mX11_hope mX12_hope 2 2 [.int n, .int w] S := by
  obtain ⟨hE, hC, hD⟩ := h.1
  refine ⟨_, s_X11_hope g hS hC.1 hC.2.1 n w, ?_⟩
  rw [hE.q_hopeX]
  exact s_X12_hope g hS hD.2.1.1.2.2.2 n w
theorem tw_odds (g : pG) {S : pS} (hS : sOk S) (h : RS S) (n k w : Int32) : TwL g mX11_odds mX12_odds 2 2 [.int n, .int k, .int w] S := by
  obtain ⟨hE, hC, hD⟩ := h.1
  refine ⟨_, s_X11_odds g hS hC.1 hC.2.1 n k w, ?_⟩
  rw [hE.q_oddsX]
  exact s_X12_odds g hS hD.2.1.1.2.2.2 n k w
