/-! WHAT IS READ -/
theorem prt_0 (σ : St) (q : Nat) : f_X2_part σ q 0 = (gI σ 5 q 3).toInt64 := by
  unfold f_X2_part
  rw [if_pos rfl]
theorem prt_1 (σ : St) (q : Nat) : f_X2_part σ q 1 = (gI σ 5 q 4).toInt64 := by
  unfold f_X2_part
  rw [if_neg (show ¬ (1 : Int32) = 0 by decide), if_pos rfl]
theorem prt_2 (σ : St) (q : Nat) : f_X2_part σ q 2 = (gI σ 5 q 5).toInt64 := by
  unfold f_X2_part
  rw [if_neg (show ¬ (2 : Int32) = 0 by decide), if_neg (show ¬ (2 : Int32) = 1 by decide), if_pos rfl]
theorem prt_3 (σ : St) (q : Nat) : f_X2_part σ q 3 = (gI σ 5 q 6).toInt64 := by
  unfold f_X2_part
  rw [if_neg (show ¬ (3 : Int32) = 0 by decide), if_neg (show ¬ (3 : Int32) = 1 by decide), if_neg (show ¬ (3 : Int32) = 2 by decide), if_pos rfl]
theorem prt_4 (σ : St) (q : Nat) : f_X2_part σ q 4 = (gI σ 5 q 7).toInt64 := by
  unfold f_X2_part
  rw [if_neg (show ¬ (4 : Int32) = 0 by decide), if_neg (show ¬ (4 : Int32) = 1 by decide), if_neg (show ¬ (4 : Int32) = 2 by decide), if_neg (show ¬ (4 : Int32) = 3 by decide), if_pos rfl]
theorem prt_5 (σ : St) (q : Nat) : f_X2_part σ q 5 = (f_X2_word σ q (5 - 5)).toInt64 := by
  unfold f_X2_part
  rw [if_neg (show ¬ (5 : Int32) = 0 by decide), if_neg (show ¬ (5 : Int32) = 1 by decide), if_neg (show ¬ (5 : Int32) = 2 by decide), if_neg (show ¬ (5 : Int32) = 3 by decide), if_neg (show ¬ (5 : Int32) = 4 by decide), if_pos rfl]
theorem prt_6 (σ : St) (q : Nat) : f_X2_part σ q 6 = (f_X2_word σ q (6 - 5)).toInt64 := by
  unfold f_X2_part
  rw [if_neg (show ¬ (6 : Int32) = 0 by decide), if_neg (show ¬ (6 : Int32) = 1 by decide), if_neg (show ¬ (6 : Int32) = 2 by decide), if_neg (show ¬ (6 : Int32) = 3 by decide), if_neg (show ¬ (6 : Int32) = 4 by decide), if_neg (show ¬ (6 : Int32) = 5 by decide), if_pos rfl]
theorem prt_7 (σ : St) (q : Nat) : f_X2_part σ q 7 = (f_X2_word σ q (7 - 5)).toInt64 := by
  unfold f_X2_part
  rw [if_neg (show ¬ (7 : Int32) = 0 by decide), if_neg (show ¬ (7 : Int32) = 1 by decide), if_neg (show ¬ (7 : Int32) = 2 by decide), if_neg (show ¬ (7 : Int32) = 3 by decide), if_neg (show ¬ (7 : Int32) = 4 by decide), if_neg (show ¬ (7 : Int32) = 5 by decide), if_neg (show ¬ (7 : Int32) = 6 by decide), if_pos rfl]
theorem prt_8 (σ : St) (q : Nat) : f_X2_part σ q 8 = (f_X2_word σ q (8 - 5)).toInt64 := by
  unfold f_X2_part
  rw [if_neg (show ¬ (8 : Int32) = 0 by decide), if_neg (show ¬ (8 : Int32) = 1 by decide), if_neg (show ¬ (8 : Int32) = 2 by decide), if_neg (show ¬ (8 : Int32) = 3 by decide), if_neg (show ¬ (8 : Int32) = 4 by decide), if_neg (show ¬ (8 : Int32) = 5 by decide), if_neg (show ¬ (8 : Int32) = 6 by decide), if_neg (show ¬ (8 : Int32) = 7 by decide), if_pos rfl]
theorem prt_no (σ : St) (q : Nat) {x : Int32} (h : ∀ k : Nat, k < 9 → ¬ x = nI k) : f_X2_part σ q x = 4294967296 := by
  unfold f_X2_part
  rw [if_neg (show ¬ x = 0 from h 0 (by decide)), if_neg (show ¬ x = 1 from h 1 (by decide)), if_neg (show ¬ x = 2 from h 2 (by decide)), if_neg (show ¬ x = 3 from h 3 (by decide)), if_neg (show ¬ x = 4 from h 4 (by decide)), if_neg (show ¬ x = 5 from h 5 (by decide)), if_neg (show ¬ x = 6 from h 6 (by decide)), if_neg (show ¬ x = 7 from h 7 (by decide)), if_neg (show ¬ x = 8 from h 8 (by decide))]
theorem proc_kind (α β : St) (x : Int32) : (f_X5_isProcess α x = 0 ∧ f_X6_within β x 0 7 = 0) ∨ ∃ p, p < 8 ∧ x = nI p ∧ f_X5_isProcess α x = 1 ∧ f_X6_within β x 0 7 = 1 := by
  unfold f_X5_isProcess
  by_cases h0 : x < 0
  · exact Or.inl ⟨by rw [if_pos h0], withinL h0⟩
  · obtain ⟨k, hk, rfl⟩ := nI_of h0
    by_cases h8 : k < 8
    · exact Or.inr ⟨k, h8, rfl, by rw [if_neg h0, if_neg (show ¬ (8 : Int32) ≤ nI k from nI_ge (b := 8) h8 (by decide))], within1 h0 (show ¬ 7 < nI k from nI_nlt (a := 7) (by omega) (by decide))⟩
    · exact Or.inl ⟨by rw [if_neg h0, if_pos (show (8 : Int32) ≤ nI k from nI_le (a := 8) (by omega) hk)], withinR h0 (show 7 < nI k from nI_lt (a := 7) (by omega) hk)⟩
section RD
variable {B N : Nat} {σ : St}
theorem rd_state (h : Sim B σ σ) (x : Int32) : f_X5_state σ x = f_X6_state σ x := by
  unfold f_X5_state f_X6_state
  rcases proc_kind σ σ x with ⟨e1, e2⟩ | ⟨p, hp, rfl, e1, e2⟩
  · rw [e1, e2, if_pos rfl, if_pos rfl]
  · rw [e1, e2, if_neg (show ¬ (1 : Int32) = 0 by decide), if_neg (show ¬ (1 : Int32) = 0 by decide), nI_clamp (by omega)]
    exact (h.1.1 p hp).1
theorem look_ix {p k : Nat} (hp : p < 8) (hk : 2 ≤ k) (hk8 : k ≤ 8) : (((7 : Int32) * nI p + nI k) - 2).toNatClampNeg = 7 * p + k - 2 := by
  rw [show ((7 : Int32) * nI p + nI k) = nI (7 * p + k) from tagA (tagM (show (7 : Int32) = nI 7 from rfl) rfl) rfl, show nI (7 * p + k) - 2 = nI (7 * p + k - 2) from pk_sub (b := 2) (by omega), nI_clamp (by omega)]
theorem rd_look (h : Sim B σ σ) (x y : Int32) : f_X5_look σ x y = f_X6_look σ x y := by
  unfold f_X5_look f_X6_look
  rcases proc_kind σ σ x with ⟨e1, e2⟩ | ⟨p, hp, rfl, e1, e2⟩
  · rw [e1, e2, if_pos rfl, if_pos rfl]
  · rw [e1, e2, if_neg (show ¬ (1 : Int32) = 0 by decide), if_neg (show ¬ (1 : Int32) = 0 by decide), nI_clamp (by omega)]
    obtain ⟨a1, a2, a3, a4, a5, a6, a7, a8, a9⟩ := h.1.1 p hp
    rw [← a1]
    by_cases hs : gI σ 5 p 2 = 0
    · rw [if_pos hs, if_pos hs]
    rw [if_neg hs, if_neg hs]
    by_cases h0 : y < 0
    · rw [withinL h0, if_pos rfl, prt_no σ p (fun k hk e => nI_pos (n := k) (by omega) (by rw [← e]; exact h0))]
    · obtain ⟨k, hk, rfl⟩ := nI_of h0
      by_cases h8 : k ≤ 8
      · rw [within1 h0 (show ¬ 8 < nI k from nI_nlt (a := 8) h8 (by decide)), if_neg (show ¬ (1 : Int32) = 0 by decide)]
        by_cases k0 : k = 0
        · subst k0
          rw [show nI 0 = 0 from rfl, prt_0, if_pos rfl, a2]
        by_cases k1 : k = 1
        · subst k1
          rw [show nI 1 = 1 from rfl, prt_1, if_neg (show ¬ (1 : Int32) = 0 by decide), if_pos rfl, a3 hs]
        rw [if_neg (nI_ne0 (by omega) (by omega)), if_neg (show ¬ nI k = 1 from fun e => k1 ((nI_eq (b := 1) (by omega) (by decide)).mp e)), look_ix hp (by omega) h8]
        rcases (show k = 2 ∨ k = 3 ∨ k = 4 ∨ k = 5 ∨ k = 6 ∨ k = 7 ∨ k = 8 by omega) with rfl | rfl | rfl | rfl | rfl | rfl | rfl
        · rw [show nI 2 = 2 from rfl, prt_2, a4]; rfl
        · rw [show nI 3 = 3 from rfl, prt_3, a5]; rfl
        · rw [show nI 4 = 4 from rfl, prt_4, a6]; rfl
        · rw [show nI 5 = 5 from rfl, prt_5, show (5 : Int32) - 5 = nI 0 from rfl, word_of (by decide), a7 0 (by decide)]; rfl
        · rw [show nI 6 = 6 from rfl, prt_6, show (6 : Int32) - 5 = nI 1 from rfl, word_of (by decide), a7 1 (by decide)]; rfl
        · rw [show nI 7 = 7 from rfl, prt_7, show (7 : Int32) - 5 = nI 2 from rfl, word_of (by decide), a7 2 (by decide)]; rfl
        · rw [show nI 8 = 8 from rfl, prt_8, show (8 : Int32) - 5 = nI 3 from rfl, word_of (by decide), a7 3 (by decide)]; rfl
      · rw [withinR h0 (show 8 < nI k from nI_lt (a := 8) (by omega) hk), if_pos rfl, prt_no σ p (fun j hj e => by have := (nI_eq hk (by omega)).mp e; omega)]
theorem rd_waiting (h : Sim B σ σ) (x y : Int32) : f_X5_waiting σ x y = f_X6_waiting σ x y := by
  unfold f_X5_waiting f_X6_waiting
  by_cases hx : x = 0 ∨ x = 1
  · have hx1 : f_X5_isPriority σ x = 1 := by
      unfold f_X5_isPriority
      rcases hx with rfl | rfl
      · rw [if_pos rfl]
      · rw [if_neg (by decide), if_pos rfl]
    have hx2 : f_X6_within σ x 0 1 = 1 := by
      rcases hx with rfl | rfl
      · exact within1 (by decide) (by decide)
      · exact within1 (by decide) (by decide)
    rw [hx1, hx2, if_neg (show ¬ (1 : Int32) = 0 by decide), if_neg (show ¬ (1 : Int32) = 0 by decide)]
    have hr := rowOf_lt σ x
    have er := rowOf_eq (σ := σ) hx
    generalize f_X5_rowOf σ x = r at hr er ⊢
    unfold f_X4_numberAt
    by_cases h0 : y < 0
    · rw [if_pos h0, if_pos h0]
    · obtain ⟨i, hi, rfl⟩ := nI_of h0
      obtain ⟨hw, hR⟩ := h.1.2.2.2.1 r hr
      rw [if_neg h0, if_neg h0, er, ready_spec hR i hi, hw.1.1]
      have hz8 := hw.1.2.1
      by_cases hz : zN σ r ≤ i
      · rw [if_pos (nI_le hz hi), show (rowL σ r)[i]? = none from List.getElem?_eq_none (by rw [rowL_len]; exact hz)]; rfl
      · rw [if_neg (nI_ge (by omega) (by omega)), nI_clamp hi]
        obtain ⟨p, hp⟩ := hw.2 i (by omega)
        rw [hp, (rowL_get hw (by omega)).mp hp]
  · have hx1 : f_X5_isPriority σ x = 0 := by
      unfold f_X5_isPriority
      rw [if_neg (fun e => hx (Or.inl e)), if_neg (fun e => hx (Or.inr e))]
    have hx2 : f_X6_within σ x 0 1 = 0 := by
      by_cases h0 : x < 0
      · exact withinL h0
      · obtain ⟨k, hk, rfl⟩ := nI_of h0
        refine withinR h0 (show 1 < nI k from nI_lt (a := 1) ?_ hk)
        rcases (show k = 0 ∨ k = 1 ∨ 1 < k by omega) with rfl | rfl | q
        · exact absurd (Or.inl rfl) hx
        · exact absurd (Or.inr rfl) hx
        · exact q
    rw [hx1, hx2, if_pos rfl, if_pos rfl]
theorem rd_channel (h : Sim B σ σ) (x : Int32) : f_X5_channel σ x = f_X6_channel σ x := by
  unfold f_X5_channel f_X6_channel
  by_cases h0 : x < 0
  · rw [withinL h0, if_pos rfl]
    unfold f_X5_channelAt
    rw [if_pos h0]; rfl
  · obtain ⟨k, hk, rfl⟩ := nI_of h0
    by_cases h4 : k < 4
    · rw [chanAt h4, oC_some, within1 h0 (show ¬ 3 < nI k from nI_nlt (a := 3) (by omega) (by decide)), if_neg (show ¬ (1 : Int32) = 0 by decide), nI_clamp hk]
      exact (h.1.2.2.1 k h4).1.symm
    · rw [withinR h0 (show 3 < nI k from nI_lt (a := 3) (by omega) hk), if_pos rfl]
      unfold f_X5_channelAt
      rw [if_neg h0, if_pos (show (4 : Int32) ≤ nI k from nI_le (a := 4) (by omega) hk)]; rfl
theorem rd_message (h : Sim B σ σ) (hm : okM N σ) (hN : N < 2 ^ 30) (x w : Int32) : f_X5_message σ x w = f_X6_message σ x w := by
  unfold f_X5_message f_X1_part f_X6_message
  obtain ⟨m1, m2⟩ := hm.2.2.2.1
  have e11 : gI σ 11 0 1 = nI (mgN σ) := h.1.2.1.2.2.2.1.trans m1
  have hlog := h.1.2.1.2.2.2.2
  rw [e11, m1]
  generalize mgN σ = m at *
  by_cases h0 : x < 0
  · rw [if_pos h0, if_pos h0]
  rw [if_neg h0, if_neg h0]
  obtain ⟨k, hk, rfl⟩ := nI_of h0
  by_cases h16 : 16 ≤ k
  · rw [if_pos (show (16 : Int32) ≤ nI k from nI_le (a := 16) h16 hk), if_pos (show 15 < nI k from nI_lt (a := 15) (by omega) hk)]
  rw [if_neg (show ¬ (16 : Int32) ≤ nI k from nI_ge (b := 16) (by omega) (by decide)), if_neg (show ¬ 15 < nI k from nI_nlt (a := 15) (by omega) (by decide))]
  by_cases hmk : m ≤ k
  · rw [if_pos (nI_le hmk hk), if_pos (nI_le hmk hk)]
  rw [if_neg (nI_ge (by omega) (by omega)), if_neg (nI_ge (by omega) (by omega))]
  have es : nI m - 1 - nI k = nI (m - 1 - k) := by
    rw [show nI m - 1 = nI (m - 1) from pk_sub (b := 1) (by omega), pk_sub (by omega)]
  by_cases w0 : w < 0
  · rw [if_pos w0, withinL w0, if_pos rfl]
  rw [if_neg w0]
  obtain ⟨j, hj, rfl⟩ := nI_of w0
  by_cases h5 : j < 5
  · rw [if_pos (show nI j < 5 from nI_lt (b := 5) h5 (by decide)), within1 w0 (show ¬ 4 < nI j from nI_nlt (a := 4) (by omega) (by decide)), if_neg (show ¬ (1 : Int32) = 0 by decide), es, room_ix (by omega) h5 rfl]
    have er : nI (m - 1 - k) - nI (m - 1 - k) / 16 * 16 = nI ((m - 1 - k) % 16) := pk_rem (d := 16) (by omega) (by decide) (by decide)
    rw [er, show (5 : Int32) * nI ((m - 1 - k) % 16) + nI j = nI (5 * ((m - 1 - k) % 16) + j) from tagA (tagM (show (5 : Int32) = nI 5 from rfl) rfl) rfl, nI_clamp (by omega), hlog _ (by omega)]
  · rw [if_neg (show ¬ nI j < 5 from nI_nlt (b := 5) (by omega) hj), withinR w0 (show 4 < nI j from nI_lt (a := 4) (by omega) hj), if_pos rfl]
theorem g_read {t : Nat} (ht : t < 512) (h : Inv t σ) : G_read σ := by
  refine ⟨h.1.1.2.1.1, ?_, rd_state h.1, rd_look h.1, rd_waiting h.1, rd_channel h.1, h.1.1.2.1.2.2.2.1, rd_message h.1 h.2.2 (by omega)⟩
  unfold f_X5_running f_X6_running
  rw [cur_spec h.1 h.2.1.2.2.1]
end RD
theorem inv0 : Inv 0 st0 := by
  have zI : ∀ g i k, gI st0 g i k = 0 := fun _ _ _ => rfl
  have zR : ∀ g i k, gR st0 g i k = none := fun _ _ _ => rfl
  have c0 : (0 : Int32).toNatClampNeg = 0 := rfl
  have hz : ∀ r, zN st0 r = 0 := fun _ => rfl
  have hkR : ∀ r, okR st0 r := fun r => ⟨rfl, by rw [hz]; decide, fun j p hp => by rw [zR] at hp; cases hp⟩
  refine ⟨⟨⟨fun p hp => ⟨rfl, rfl, fun e => absurd (zI _ _ _) e, rfl, rfl, rfl, fun _ _ => rfl, Or.inl rfl, fun e => ?_⟩, ⟨rfl, rfl, fun _ _ => ⟨rfl, rfl⟩, rfl, fun _ _ => rfl⟩, fun k hk => ⟨?_, fun p hp => ?_, fun k' p hk' hp => ?_⟩, fun r hr => ⟨⟨hkR r, fun j hj => ?_⟩, ?_⟩, fun p hp h1 => ?_, ?_⟩, fun p hp => ?_⟩, ⟨hkR 0, hkR 1, fun p hp => ?_, fun k p hp => ?_⟩, ⟨rfl, by decide⟩, fun k hk => ⟨rfl, ?_⟩, fun p hp => ⟨rfl, ?_⟩, ⟨rfl, ?_⟩, fun i hi => ?_⟩
  · rw [zI] at e; exact absurd e (by decide)
  · rw [code_none (zR _ _ _)]; rfl
  · rw [zR] at hp; cases hp
  · rw [zR] at hp; cases hp
  · rw [hz] at hj; omega
  · have el : rowL st0 r = [] := List.eq_nil_of_length_eq_zero (by rw [rowL_len, hz])
    rw [el]
    refine ⟨List.Pairwise.nil, fun p => ⟨fun hp => (by cases hp), fun hp => ?_⟩⟩
    have := hp.2.1
    rw [zI] at this
    exact absurd this (by decide)
  · rw [zI] at h1; exact absurd h1 (by decide)
  · unfold fst lst
    rw [zI, zI]
    decide
  · rw [zI, zR]
    exact ⟨⟨fun e => absurd e (by decide), fun e => (by cases e)⟩, fun e => (by cases e)⟩
  · rw [zR] at hp; cases hp
  · rw [zR] at hp; cases hp
  · show (0 : Int32).toNatClampNeg < 24
    decide
  · show (0 : Int32).toNatClampNeg ≤ 40
    decide
  · show (0 : Int32).toNatClampNeg ≤ 0
    decide
  · have : i < (0 : Int32).toNatClampNeg := hi
    rw [c0] at this; omega
theorem good : Good Inv := ⟨inv0, fun t σ ht h => ⟨Inv_mono h, h.2.1, h.2.2, g_add h, g_start ht h, g_run ht h, g_setClock h, g_reset h, g_read ht h⟩⟩
