/-! ===== the tape ===== -/
theorem shr_low (n : Nat) (hn : n ≤ 24) (v : Int32) : jshr v (nI n) &&& 255 = jushr v (nI n) &&& 255 := by
  refine b_ext (fun i hi => ?_)
  rw [b_and, b_and, b_255]
  unfold jshr jushr
  rw [b_sshr n (by omega) v hi, b_ushr n (by omega) v i]
  by_cases h : i < 8
  · rw [if_pos (by omega)]
  · simp [h]
theorem byte_low (n : Nat) (hn : n ≤ 24) (v : Int32) : vp_nar .byte (jbyte (jshr v (nI n))) &&& 255 = jushr v (nI n) &&& 255 := by
  unfold jbyte
  rw [pk_vb, bp_b, shr_low n hn]
theorem ushr24 (v : Int32) : jushr v 24 &&& 255 = jushr v 24 := by
  refine b_ext (fun i hi => ?_)
  rw [b_and, b_255]
  unfold jushr
  rw [show (24 : Int32) = nI 24 from rfl, b_ushr 24 (by omega) v i]
  by_cases h : i < 8
  · simp [h]
  · rw [b_big (show 32 ≤ 24 + i by omega)]; simp
theorem ushr0 (v : Int32) : jushr v (nI 0) &&& 255 = v &&& 255 := by
  refine b_ext (fun i hi => ?_)
  rw [b_and, b_and]
  unfold jushr
  rw [b_ushr 0 (by omega) v i, Nat.zero_add]
/-- the tape: as many bytes, the same ones -/
def TpOk (n : Nat) (f g : Nat → Int32) : Prop := ∀ j, j < n → f j = g j &&& 255
theorem tp_push {n : Nat} {f g : Nat → Int32} {x y : Int32} (h : TpOk n f g) (e : x = y &&& 255) : TpOk (n + 1) (upd f n x) (upd g n y) := by
  intro j hj
  unfold upd
  by_cases q : j = n
  · rw [if_pos q, if_pos q]; exact e
  · rw [if_neg q, if_neg q]; exact h j (by omega)
theorem jputB_nI (f : Nat → Int32) {k : Nat} (x : Int32) (h : k < 2 ^ 31) : jputB f (nI k) x = upd f k (vp_nar .byte x) := by
  unfold jputB; rw [nI_clamp h]
theorem four_e {F n : Nat} {f g : Nat → Int32} (v : Int32) (hn : n + 4 ≤ 900) (hF : 5 < F) (h : TpOk n f g) :
    ∃ f2 g2, X8_append (nI n) f v = some (nI (n + 4), f2) ∧ X12_four F (nI n) g v = some (nI (n + 4), g2) ∧ TpOk (n + 4) f2 g2 := by
  refine ⟨upd (upd (upd (upd f n (jushr v 24)) (n + 1) (jushr v 16 &&& 255)) (n + 2) (jushr v 8 &&& 255)) (n + 3) (v &&& 255), upd (upd (upd (upd g n (vp_nar .byte (jbyte (jshr v 24)))) (n + 1) (vp_nar .byte (jbyte (jshr v 16)))) (n + 2) (vp_nar .byte (jbyte (jshr v 8)))) (n + 3) (vp_nar .byte (jbyte (jshr v 0))), ?_, ?_, ?_⟩
  · unfold X8_append X8_hasRoomFor
    have e : ∀ k, nI n + nI k = nI (n + k) := nI_add n
    rw [show (4 : Int32) = nI 4 from rfl, e, if_neg (show ¬ (900 : Int32) < nI (n + 4) from (show ¬ nI 900 < nI (n + 4) from nI_nlt (by omega) (by omega)))]
    simp only [Option.bind_some, if_neg (show ¬ (1 : Int32) = 0 by decide), show nI n + 1 = nI (n + 1) from e 1, show nI n + 2 = nI (n + 2) from e 2, show nI n + 3 = nI (n + 3) from e 3, ix_nI (show n < 900 by omega) (by omega), ix_nI (show n + 1 < 900 by omega) (by omega), ix_nI (show n + 2 < 900 by omega) (by omega), ix_nI (show n + 3 < 900 by omega) (by omega), if_true, jput_nI _ _ (show n < 2 ^ 31 by omega), jput_nI _ _ (show n + 1 < 2 ^ 31 by omega), jput_nI _ _ (show n + 2 < 2 ^ 31 by omega), jput_nI _ _ (show n + 3 < 2 ^ 31 by omega)]
  · unfold X12_four
    have st : ∀ (m : Nat) (k : Int32) (q : Nat → Int32), m < 900 → ¬ k < 0 → X12_four_b3 F v (k, nI m, q) = some (.inl (k + (-8), nI (m + 1), upd q m (vp_nar .byte (jbyte (jshr v k))))) := by
      intro m k q hm hk
      unfold X12_four_b3
      simp only [if_neg hk, ix_nI hm (by omega), if_true, jputB_nI _ _ (show m < 2 ^ 31 by omega), nI_1]
    have en : ∀ (m : Nat) (q : Nat → Int32), X12_four_b3 F v (-8, nI m, q) = some (.inr (nI m, q)) := by
      intro m q
      unfold X12_four_b3
      simp only [if_pos (show (-8 : Int32) < 0 by decide)]
    obtain ⟨G, rfl⟩ : ∃ G, F = G + 1 + 1 + 1 + 1 + 1 := ⟨F - 5, by omega⟩
    simp only [iter, st n 24 g (by omega) (by decide), show (24 : Int32) + (-8) = 16 from by decide, st (n + 1) 16 _ (by omega) (by decide), show (16 : Int32) + (-8) = 8 from by decide, st (n + 1 + 1) 8 _ (by omega) (by decide), show (8 : Int32) + (-8) = 0 from by decide, st (n + 1 + 1 + 1) 0 _ (by omega) (by decide), show (0 : Int32) + (-8) = -8 from by decide, en, Option.bind_some]
  · refine tp_push (tp_push (tp_push (tp_push h ?_) ?_) ?_) ?_
    · rw [show (24 : Int32) = nI 24 from rfl, byte_low 24 (by omega)]; exact (ushr24 v).symm
    · rw [show (16 : Int32) = nI 16 from rfl, byte_low 16 (by omega)]
    · rw [show (8 : Int32) = nI 8 from rfl, byte_low 8 (by omega)]
    · rw [show (0 : Int32) = nI 0 from rfl, byte_low 0 (by omega)]; exact (ushr0 v).symm
theorem feed_e {F n : Nat} {f g : Nat → Int32} (v1 v2 v3 v4 v5 : Int32) (hn : n ≤ 900) (hF : 5 < F) (h : TpOk n f g) :
    ∃ r m f2 g2, m ≤ 900 ∧ X11_feed (nI n) f v1 v2 v3 v4 v5 = some (r, nI m, f2) ∧ X12_feed F (nI n) g v1 v2 v3 v4 v5 = some (r, nI m, g2) ∧ TpOk m f2 g2 := by
  unfold X11_feed X12_feed X8_hasRoomFor
  rw [show nI n + 20 = nI (n + 20) from nI_add n 20]
  by_cases hc : n + 20 ≤ 900
  · obtain ⟨f1, g1, a1, b1, h1⟩ := four_e (F := F) v1 (by omega) hF h
    obtain ⟨f2, g2, a2, b2, h2⟩ := four_e (F := F) v2 (by omega) hF h1
    obtain ⟨f3, g3, a3, b3, h3⟩ := four_e (F := F) v3 (by omega) hF h2
    obtain ⟨f4, g4, a4, b4, h4⟩ := four_e (F := F) v4 (by omega) hF h3
    obtain ⟨f5, g5, a5, b5, h5⟩ := four_e (F := F) v5 (by omega) hF h4
    refine ⟨nI (n + 4 + 4 + 4 + 4 + 4), n + 4 + 4 + 4 + 4 + 4, f5, g5, by omega, ?_, ?_, h5⟩
    · rw [if_neg (show ¬ (900 : Int32) < nI (n + 20) from (show ¬ nI 900 < nI (n + 20) from nI_nlt hc (by omega)))]
      simp only [Option.bind_some, if_neg (show ¬ (1 : Int32) = 0 by decide), a1, a2, a3, a4, a5]
    · rw [if_pos (show nI (n + 20) ≤ (900 : Int32) from (show nI (n + 20) ≤ nI 900 from nI_le hc (by omega)))]
      simp only [Option.bind_some, b1, b2, b3, b4, b5]
  · refine ⟨-1, n, f, g, hn, ?_, ?_, h⟩
    · rw [if_pos (show (900 : Int32) < nI (n + 20) from (show nI 900 < nI (n + 20) from nI_lt (by omega) (by omega)))]; rfl
    · rw [if_neg (show ¬ nI (n + 20) ≤ (900 : Int32) from (show ¬ nI (n + 20) ≤ nI 900 from nI_ge (by omega) (by omega)))]
