/-! what holds of every record stays so -/
abbrev RV0 (f : Nat → Int32) : Prop := (f 2 = 0 ∨ f 2 = 1 ∨ f 2 = 2 ∨ f 2 = 3) ∧ (f 2 ≠ 2 → f 14 = 0) ∧ (f 2 ≠ 1 → f 13 = 0) ∧ (f 13 ≠ 0 → (f 4 &&& 131072) ≠ 0) ∧ b01 (f 12) ∧ b01 (f 13) ∧ b01 (f 14)
set_option maxHeartbeats 4000000 in
set_option maxRecDepth 100000 in
theorem RV0.st {f : Nat → Int32} (h : RV0 f) : f 2 = 0 ∨ f 2 = 1 ∨ f 2 = 2 ∨ f 2 = 3 := h.1
set_option maxHeartbeats 4000000 in
set_option maxRecDepth 100000 in
theorem RV0.fin {f : Nat → Int32} (h : RV0 f) : f 2 ≠ 2 → f 14 = 0 := h.2.1
set_option maxHeartbeats 4000000 in
set_option maxRecDepth 100000 in
theorem RV0.lack {f : Nat → Int32} (h : RV0 f) : f 2 ≠ 1 → f 13 = 0 := h.2.2.1
set_option maxHeartbeats 4000000 in
set_option maxRecDepth 100000 in
theorem RV0.eof {f : Nat → Int32} (h : RV0 f) : f 13 ≠ 0 → (f 4 &&& 131072) ≠ 0 := h.2.2.2.1
set_option maxHeartbeats 4000000 in
set_option maxRecDepth 100000 in
theorem RV0.got {f : Nat → Int32} (h : RV0 f) : b01 (f 12) := h.2.2.2.2.1
set_option maxHeartbeats 4000000 in
set_option maxRecDepth 100000 in
theorem RV0.lk {f : Nat → Int32} (h : RV0 f) : b01 (f 13) := h.2.2.2.2.2.1
set_option maxHeartbeats 4000000 in
set_option maxRecDepth 100000 in
theorem RV0.fn {f : Nat → Int32} (h : RV0 f) : b01 (f 14) := h.2.2.2.2.2.2
set_option maxHeartbeats 4000000 in
set_option maxRecDepth 100000 in
theorem RV.z {f : Nat → Int32} (h : RV f) : RV0 f := ⟨h.st, h.fin, h.lack, h.eof, h.got, h.lk, h.fn⟩
set_option maxHeartbeats 4000000 in
set_option maxRecDepth 100000 in
theorem RV0.r {f : Nat → Int32} (h : RV0 f) (hr : RI f) : RV f := ⟨h.st, h.fin, h.lack, h.eof, h.got, h.lk, h.fn, hr⟩
set_option maxHeartbeats 4000000 in
set_option maxRecDepth 100000 in
theorem rv_set {f : Nat → Int32} {k : Nat} {v : Int32} (h2 : k ≠ 2) (h4 : k ≠ 4) (h12 : k ≠ 12) (h13 : k ≠ 13) (h14 : k ≠ 14) (h : RV0 f) : RV0 (upd f k v) := by
  have e2 : upd f k v 2 = f 2 := pk_un (Ne.symm h2)
  have e4 : upd f k v 4 = f 4 := pk_un (Ne.symm h4)
  have e12 : upd f k v 12 = f 12 := pk_un (Ne.symm h12)
  have e13 : upd f k v 13 = f 13 := pk_un (Ne.symm h13)
  have e14 : upd f k v 14 = f 14 := pk_un (Ne.symm h14)
  exact ⟨by rw [e2]; exact h.st, by rw [e2, e14]; exact h.fin, by rw [e2, e13]; exact h.lack, by rw [e13, e4]; exact h.eof, by rw [e12]; exact h.got, by rw [e13]; exact h.lk, by rw [e14]; exact h.fn⟩
set_option maxHeartbeats 4000000 in
set_option maxRecDepth 100000 in
theorem rv_got {f : Nat → Int32} {v : Int32} (hv : b01 v) (h : RV0 f) : RV0 (upd f 12 v) := ⟨h.st, h.fin, h.lack, h.eof, hv, h.lk, h.fn⟩
set_option maxHeartbeats 4000000 in
set_option maxRecDepth 100000 in
theorem rv_open {f : Nat → Int32} (h : RV0 f) (h0 : f 2 = 0) : RV0 (upd f 2 1) := ⟨Or.inr (Or.inl rfl), fun _ => h.fin (by rw [h0]; decide), fun c => absurd rfl c, h.eof, h.got, h.lk, h.fn⟩
set_option maxHeartbeats 4000000 in
set_option maxRecDepth 100000 in
theorem or_ne {a b : Int32} (h : a &&& 131072 ≠ 0) : (a ||| b) &&& 131072 ≠ 0 := by
  have e17 : ((1 : Int32) <<< (nI 17 &&& 31)) = 131072 := by decide
  rw [← e17] at h ⊢
  rw [Ne, i_bit0 (by decide)] at h ⊢
  rw [Int32.toBitVec_or, BitVec.getLsbD_or]
  intro c
  apply h
  revert c
  cases a.toBitVec.getLsbD 17
  · intro _; rfl
  · intro c; exact c
set_option maxHeartbeats 4000000 in
set_option maxRecDepth 100000 in
theorem rv_or {f : Nat → Int32} {b : Int32} (h : RV0 f) : RV0 (upd f 4 (f 4 ||| b)) := ⟨h.st, h.fin, h.lack, fun c => or_ne (h.eof c), h.got, h.lk, h.fn⟩
set_option maxHeartbeats 4000000 in
set_option maxRecDepth 100000 in
theorem rv_lack0 {f : Nat → Int32} (h : RV0 f) : RV0 (upd f 13 0) := ⟨h.st, h.fin, fun _ => rfl, fun c => absurd rfl c, h.got, Or.inl rfl, h.fn⟩
set_option maxHeartbeats 4000000 in
set_option maxRecDepth 100000 in
theorem rv_fin0 {f : Nat → Int32} (h : RV0 f) : RV0 (upd f 14 0) := ⟨h.st, fun _ => rfl, h.lack, h.eof, h.got, h.lk, Or.inl rfl⟩
set_option maxHeartbeats 4000000 in
set_option maxRecDepth 100000 in
theorem rv_ask {f w : Nat → Int32} (h : RV0 f) (h1 : f 2 = 1) (h4 : f 4 &&& 131072 ≠ 0) : RV0 (g_CR_askForParts f w).1 :=
  rv_set (by decide) (by decide) (by decide) (by decide) (by decide) ⟨h.st, h.fin, fun c => absurd h1 c, fun _ => h4, h.got, Or.inr rfl, h.fn⟩
set_option maxHeartbeats 4000000 in
set_option maxRecDepth 100000 in
theorem rv_tell {f w : Nat → Int32} (h : RV0 f) (h1 : f 2 = 2) : RV0 (g_CR_tellFinished f w).1 :=
  rv_set (by decide) (by decide) (by decide) (by decide) (by decide) ⟨h.st, fun c => absurd h1 c, h.lack, h.eof, h.got, h.lk, Or.inr rfl⟩
set_option maxHeartbeats 4000000 in
set_option maxRecDepth 100000 in
theorem rv_end {f w : Nat → Int32} {c : Int32} (h : RV0 f) : RV0 (g_CR_endWith f w c).1 :=
  rv_tell (w := w) (f := upd (upd (upd (upd f 2 2) 3 c) 11 1) 13 0) ⟨Or.inr (Or.inr (Or.inl rfl)), fun c => absurd rfl c, fun _ => rfl, fun c => absurd rfl c, h.got, Or.inl rfl, h.fn⟩ rfl
set_option maxHeartbeats 4000000 in
set_option maxRecDepth 100000 in
theorem rv_close {f w : Nat → Int32} (h : RV0 f) : RV0 (g_CR_becomeClosed f w).1 := ⟨Or.inr (Or.inr (Or.inr rfl)), fun _ => rfl, fun _ => rfl, fun c => absurd rfl c, h.got, Or.inl rfl, Or.inl rfl⟩
set_option maxHeartbeats 4000000 in
set_option maxRecDepth 100000 in
theorem rv_m {f w : Nat → Int32} {p x : Int32} (h : RV0 f) : RV0 (g_CR_takeMetadata f w p x).2.1 ∧ (g_CR_takeMetadata f w p x).2.1 2 = f 2 := by
  unfold g_CR_takeMetadata
  split
  · split
    · exact ⟨h, rfl⟩
    · split
      · exact ⟨h, rfl⟩
      · exact ⟨rv_set (by decide) (by decide) (by decide) (by decide) (by decide) (rv_set (by decide) (by decide) (by decide) (by decide) (by decide) (rv_set (by decide) (by decide) (by decide) (by decide) (by decide) (rv_or h))), rfl⟩
  · exact ⟨h, rfl⟩
set_option maxHeartbeats 4000000 in
set_option maxRecDepth 100000 in
theorem rv_d {f w : Nat → Int32} {p x : Int32} (h : RV0 f) : RV0 (g_CR_takeData f w p x).2.1 ∧ (g_CR_takeData f w p x).2.1 2 = f 2 := by
  unfold g_CR_takeData
  split
  · exact ⟨h, rfl⟩
  · split
    · exact ⟨rv_set (by decide) (by decide) (by decide) (by decide) (by decide) (rv_or h), rfl⟩
    · exact ⟨h, rfl⟩
set_option maxHeartbeats 4000000 in
set_option maxRecDepth 100000 in
theorem rv_e {f w : Nat → Int32} {p x : Int32} (h : RV0 f) : RV0 (g_CR_takeEof f w p x).2.1 ∧ (g_CR_takeEof f w p x).2.1 2 = f 2 := by
  unfold g_CR_takeEof
  split
  · split
    · exact ⟨rv_set (by decide) (by decide) (by decide) (by decide) (by decide) (rv_set (by decide) (by decide) (by decide) (by decide) (by decide) (rv_or h)), rfl⟩
    · exact ⟨h, rfl⟩
  · exact ⟨h, rfl⟩
set_option maxHeartbeats 4000000 in
set_option maxRecDepth 100000 in
theorem rv_ho {k : Int32} {T : T3} (h : RV0 T.2.1) (h1 : T.2.1 2 = 1) (h3 : k = 3 → ¬ T.1 = 0 → T.2.1 4 &&& 131072 ≠ 0) : RV0 (hoF k T).2.1 := by
  unfold hoF
  by_cases c0 : T.1 = 0
  · rw [if_pos c0]; exact h
  · rw [if_neg c0]
    by_cases c1 : g_CR_lackingParts T.2.1 T.2.2 = 0
    · rw [if_pos c1]
      split
      · exact rv_end h
      · exact rv_end h
    · rw [if_neg c1]
      by_cases c2 : k = 3
      · rw [if_pos c2]
        exact rv_ask (rv_set (by decide) (by decide) (by decide) (by decide) (by decide) h) h1 (h3 c2 c0)
      · rw [if_neg c2]; exact h
set_option maxHeartbeats 4000000 in
set_option maxRecDepth 100000 in
theorem rv_hop {f w : Nat → Int32} {k : Nat} {p x : Int32} (hk : k < 16) (h : RV0 f) (h1 : f 2 = 1) : RV0 (g_CR_hearOpen f w (nI k) p x).2.1 := by
  have h9 : RV0 (upd f 9 (12 * f 0)) := rv_set (by decide) (by decide) (by decide) (by decide) (by decide) h
  match k, hk with
  | 1, _ =>
    rw [show nI 1 = 1 from rfl, ho_1]
    exact rv_ho (rv_m h9).1 ((rv_m h9).2.trans h1) (fun c => absurd c (by decide))
  | 2, _ =>
    rw [show nI 2 = 2 from rfl, ho_2]
    exact rv_ho (rv_d h9).1 ((rv_d h9).2.trans h1) (fun c => absurd c (by decide))
  | 3, _ =>
    rw [show nI 3 = 3 from rfl, ho_3]
    exact rv_ho (rv_e h9).1 ((rv_e h9).2.trans h1) (fun _ h => eof_t h)
  | 4, _ =>
    rw [show nI 4 = 4 from rfl, ho_4]
    exact rv_end h9
  | 0, _ =>
    unfold g_CR_hearOpen
    rw [if_neg (by decide), if_neg (by decide), if_neg (by decide), if_neg (by decide)]
    exact h9
  | n + 5, hk =>
    have hh : ∀ n, n + 5 < 16 → ¬ nI (n + 5) = 4 ∧ ¬ nI (n + 5) = 1 ∧ ¬ nI (n + 5) = 2 ∧ ¬ nI (n + 5) = 3 := by
      intro n hn
      have : ∀ m, m < 16 → 5 ≤ m → ¬ nI m = 4 ∧ ¬ nI m = 1 ∧ ¬ nI m = 2 ∧ ¬ nI m = 3 := by decide +kernel
      exact this (n + 5) hn (by omega)
    obtain ⟨a, b, c, d⟩ := hh n hk
    unfold g_CR_hearOpen
    rw [if_neg a, if_neg b, if_neg c, if_neg d]
    exact h9
set_option maxHeartbeats 4000000 in
set_option maxRecDepth 100000 in
theorem l7_end {f w : Nat → Int32} {c : Int32} (h : L7 f) : L7 (g_CR_endWith f w c).1 := h
set_option maxHeartbeats 4000000 in
set_option maxRecDepth 100000 in
theorem l7_ho {k : Int32} {T : T3} (h : L7 T.2.1) : L7 (hoF k T).2.1 := by
  unfold hoF
  split
  · exact h
  · split
    · split
      · exact h
      · exact h
    · split
      · exact h
      · exact h
set_option maxHeartbeats 4000000 in
set_option maxRecDepth 100000 in
theorem l7_hop {f w : Nat → Int32} {k p : Nat} {x : Int32} (hk : k < 16) (hp : p < 256) (h : L7 f) : L7 (g_CR_hearOpen f w (nI k) (nI p) x).2.1 := by
  have h9 : L7 (upd f 9 (12 * f 0)) := h
  match k, hk with
  | 1, _ => rw [show nI 1 = 1 from rfl, ho_1]; exact l7_ho (l7_m h9)
  | 2, _ => rw [show nI 2 = 2 from rfl, ho_2]; exact l7_ho (l7_d h9)
  | 3, _ => rw [show nI 3 = 3 from rfl, ho_3]; exact l7_ho (l7_e hp h9)
  | 4, _ => rw [show nI 4 = 4 from rfl, ho_4]; exact h
  | 0, _ =>
    unfold g_CR_hearOpen
    rw [if_neg (by decide), if_neg (by decide), if_neg (by decide), if_neg (by decide)]
    exact h9
  | n + 5, hk =>
    have this : ∀ m, m < 16 → 5 ≤ m → ¬ nI m = 4 ∧ ¬ nI m = 1 ∧ ¬ nI m = 2 ∧ ¬ nI m = 3 := by decide +kernel
    obtain ⟨a, b, c, d⟩ := this (n + 5) hk (by omega)
    unfold g_CR_hearOpen
    rw [if_neg a, if_neg b, if_neg c, if_neg d]
    exact h9
set_option maxHeartbeats 4000000 in
set_option maxRecDepth 100000 in
/-- a property of what is heard -/
theorem hear_P {Q : (Nat → Int32) → Prop} {f w : Nat → Int32} {k p x : Int32} (h0 : Q f) (hg : Q (upd f 12 1)) (ho : f 2 = 0 → Q (g_CR_hearOpen (upd (upd f 2 1) 12 1) w k p x).2.1 ∧ Q (g_CR_hearOpen (upd f 2 1) w k p x).2.1) (ho1 : f 2 = 1 → Q (g_CR_hearOpen (upd f 12 1) w k p x).2.1 ∧ Q (g_CR_hearOpen f w k p x).2.1) (hc : Q (g_CR_becomeClosed f w).1) : Q (g_CR_hear f w k p x).2.1 := by
  unfold g_CR_hear
  by_cases c0 : g_CR_looksAt f w k = 0
  · rw [if_pos c0]; exact h0
  · rw [if_neg c0]
    by_cases c1 : f 2 = 0
    · rw [if_pos c1]
      by_cases c2 : k = 3
      · rw [if_pos c2]; exact (ho c1).1
      · rw [if_neg c2]
        by_cases c3 : k = 4
        · rw [if_pos c3]; exact (ho c1).1
        · rw [if_neg c3]; exact (ho c1).2
    · rw [if_neg c1]
      by_cases c2 : k = 3
      · rw [if_pos c2]
        by_cases c4 : f 2 = 1
        · rw [if_pos c4]; exact (ho1 c4).1
        · rw [if_neg c4]
          split
          · exact hg
          · exact hg
      · rw [if_neg c2]
        by_cases c3 : k = 4
        · rw [if_pos c3]
          by_cases c4 : f 2 = 1
          · rw [if_pos c4]; exact (ho1 c4).1
          · rw [if_neg c4]
            split
            · exact hg
            · exact hg
        · rw [if_neg c3]
          by_cases c4 : f 2 = 1
          · rw [if_pos c4]; exact (ho1 c4).2
          · rw [if_neg c4]
            split
            · split
              · exact hc
              · exact h0
            · exact h0
set_option maxHeartbeats 4000000 in
set_option maxRecDepth 100000 in
theorem rv_hear {f w : Nat → Int32} {k p : Nat} {x : Int32} (hk : k < 16) (hp : p < 256) (h : RV f) (hl : L7 f) : RV (g_CR_hear f w (nI k) (nI p) x).2.1 ∧ L7 (g_CR_hear f w (nI k) (nI p) x).2.1 := by
  refine ⟨RV0.r (hear_P (Q := RV0) h.z (rv_got (Or.inr rfl) h.z) (fun c => ⟨rv_hop hk (rv_got (Or.inr rfl) (rv_open h.z c)) rfl, rv_hop hk (rv_open h.z c) rfl⟩) (fun c => ⟨rv_hop hk (rv_got (Or.inr rfl) h.z) c, rv_hop hk h.z c⟩) (rv_close h.z)) (ri_hear (nI_pos (by omega)) h.ri), ?_⟩
  exact hear_P (Q := L7) hl hl (fun _ => ⟨l7_hop hk hp hl, l7_hop hk hp hl⟩) (fun _ => ⟨l7_hop hk hp hl, l7_hop hk hp hl⟩) hl
set_option maxHeartbeats 4000000 in
set_option maxRecDepth 100000 in
theorem rv_step {f w : Nat → Int32} (h : RV f) (hl : L7 f) : RV (g_CR_stepClocks f w).1 ∧ L7 (g_CR_stepClocks f w).1 := by
  have key : RV0 (g_CR_stepClocks f w).1 ∧ L7 (g_CR_stepClocks f w).1 := by
    have h0 := h.z
    unfold g_CR_stepClocks
    by_cases c1 : f 2 = 1
    · rw [if_pos c1]
      show RV0 (g_CR_stepOpen f w).1 ∧ L7 (g_CR_stepOpen f w).1
      unfold g_CR_stepOpen
      have h9 : RV0 (upd f 9 (f 9 - 1)) := rv_set (by decide) (by decide) (by decide) (by decide) (by decide) h0
      split
      · exact ⟨rv_close (rv_set (by decide) (by decide) (by decide) (by decide) (by decide) h9), hl⟩
      · by_cases c2 : g_CR_has (upd f 9 (f 9 - 1)) w 131072 = 0
        · rw [if_pos c2]; exact ⟨h9, hl⟩
        · rw [if_neg c2]
          have h10 : RV0 (upd (upd f 9 (f 9 - 1)) 10 (f 10 - 1)) := rv_set (by decide) (by decide) (by decide) (by decide) (by decide) h9
          split
          · split
            · exact ⟨rv_end h10, hl⟩
            · refine ⟨rv_ask (rv_set (by decide) (by decide) (by decide) (by decide) (by decide) h10) c1 ?_, hl⟩
              intro c
              exact c2 (ifz.2 c)
          · exact ⟨h10, hl⟩
    · rw [if_neg c1]
      by_cases c2 : f 2 = 2
      · rw [if_pos c2]
        show RV0 (g_CR_stepEnding f w).1 ∧ L7 (g_CR_stepEnding f w).1
        unfold g_CR_stepEnding
        have h10 : RV0 (upd f 10 (f 10 - 1)) := rv_set (by decide) (by decide) (by decide) (by decide) (by decide) h0
        split
        · split
          · exact ⟨rv_close h10, hl⟩
          · exact ⟨rv_tell (rv_set (by decide) (by decide) (by decide) (by decide) (by decide) h10) c2, hl⟩
        · exact ⟨h10, hl⟩
      · rw [if_neg c2]; exact ⟨h0, hl⟩
  exact ⟨RV0.r key.1 (ri_step h.ri), key.2⟩
set_option maxHeartbeats 4000000 in
set_option maxRecDepth 100000 in
theorem rv_pay {f w : Nat → Int32} (h : RV f) (hl : L7 f) : RV (g_CR_payOne f w).2.1 ∧ L7 (g_CR_payOne f w).2.1 := by
  have key : RV0 (g_CR_payOne f w).2.1 ∧ L7 (g_CR_payOne f w).2.1 := by
    unfold g_CR_payOne
    split
    · split
      · exact ⟨rv_fin0 h.z, hl⟩
      · exact ⟨rv_lack0 h.z, hl⟩
    · exact ⟨rv_got (Or.inl rfl) h.z, hl⟩
  exact ⟨RV0.r key.1 (ri_pay h.ri), key.2⟩
