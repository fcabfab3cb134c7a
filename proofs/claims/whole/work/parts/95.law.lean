/-! ===== the law's loop ===== -/
theorem al_o0 {L : Nat} {xs : Nat → Int32} {M : ax_M} {N : ax_L} {k : Nat} (h : k < L) (hL : L ≤ 384) : al (hx (L, xs) M N) 0 (nI k) = some (xs k) := by
  unfold al
  rw [show hx (L, xs) M N 0 = .inl (0, L, xs) from rfl]
  dsimp only
  rw [nI_clamp (by omega), if_pos ⟨rfl, fun q => q.elim (fun z => nI_pos (n := k) (by omega) z) (fun z => by omega)⟩]
theorem an_o0 {L : Nat} {xs : Nat → Int32} {M : ax_M} {N : ax_L} : an (hx (L, xs) M N) 0 = some (nI L) := rfl
def LQ (L : Nat) (xs : Nat → Int32) (Q : Option Value → Nat → ax_H → Prop) (i : Nat) : Prop := ∀ (M : ax_M) (N : ax_L), Inv M N → ax_W 1000 226 18 [.ref 0, .ref 20, .ref 84, .int (nI i)] [] 82 (hx (L, xs) M N) Q
section Law
variable {L i : Nat} {xs : Nat → Int32} {Q : Option Value → Nat → ax_H → Prop} {M : ax_M} {N : ax_L}
theorem lw_0 (hx0 : LQ L xs Q (i + 6)) (hI : Inv M N) (hi : i + 6 ≤ L) (hL : L ≤ 384) : ax_W 1000 226 188 [.ref 0, .ref 20, .ref 84, .int (nI i)] [] 82 (hx (L, xs) M N) Q := by
  obtain ⟨v, M1, N1, M2, N2, g1, g2, hI2⟩ := (p0 hI : RPi 81 145 [.ref 20, .int (xs (i + 1)), ax_dm] [.ref 84, .int (xs (i + 1)), ax_dm] M N)
  have k1 : ∀ (n : Nat) (Q : Option Value → Nat → ax_H → Prop), ax_W 999 81 0 [.ref 20, .int (xs (i + 1)), ax_dm] [] n (hx (L, xs) M N) Q = Q (some (.int v)) n (hx (L, xs) M1 N1) := fun n Q => g1 (L, xs) 99 n Q
  have k2 : ∀ (n : Nat) (Q : Option Value → Nat → ax_H → Prop), ax_W 999 145 0 [.ref 84, .int (xs (i + 1)), ax_dm] [] n (hx (L, xs) M1 N1) Q = Q (some (.int v)) n (hx (L, xs) M2 N2) := fun n Q => g2 (L, xs) 99 n Q
  simp only [↓s226_188, ↓s226_189, ↓s226_190, ↓s226_191, ↓s226_192, ↓s226_193, ↓s226_194, ↓s226_197, ↓s226_198, ↓s226_199, ↓s226_200, ↓s226_201, ↓s226_202, ↓s226_203, ↓s226_206, ↓s226_1085, ↓s226_1088, nI_add, al_o0 (show i + 1 < L by omega) hL, jc_20, jc_84, ↓k1, ↓k2, ct_s, ct_n, ↓bI_01, bI_eq0, bI_eq1, nI_10, nI_01, dec_f, dec_t, if_n, eq_self, true_or, or_true, if_true, if_false, reduceIte]
  exact hx0 M2 N2 hI2
theorem lw_1 (hx0 : LQ L xs Q (i + 6)) (hI : Inv M N) (hi : i + 6 ≤ L) (hL : L ≤ 384) : ax_W 1000 226 211 [.ref 0, .ref 20, .ref 84, .int (nI i)] [] 82 (hx (L, xs) M N) Q := by
  obtain ⟨v, M1, N1, M2, N2, g1, g2, hI2⟩ := (p1 hI : RPi 82 147 [.ref 20, .int (xs (i + 1)), .int (xs (i + 2)), .int (xs (i + 3)), .int (xs (i + 4)), .int (xs (i + 5)), ax_dm] [.ref 84, .int (xs (i + 1)), .int (xs (i + 2)), .int (xs (i + 3)), .int (xs (i + 4)), .int (xs (i + 5))] M N)
  have k1 : ∀ (n : Nat) (Q : Option Value → Nat → ax_H → Prop), ax_W 999 82 0 [.ref 20, .int (xs (i + 1)), .int (xs (i + 2)), .int (xs (i + 3)), .int (xs (i + 4)), .int (xs (i + 5)), ax_dm] [] n (hx (L, xs) M N) Q = Q (some (.int v)) n (hx (L, xs) M1 N1) := fun n Q => g1 (L, xs) 99 n Q
  have k2 : ∀ (n : Nat) (Q : Option Value → Nat → ax_H → Prop), ax_W 999 147 0 [.ref 84, .int (xs (i + 1)), .int (xs (i + 2)), .int (xs (i + 3)), .int (xs (i + 4)), .int (xs (i + 5))] [] n (hx (L, xs) M1 N1) Q = Q (some (.int v)) n (hx (L, xs) M2 N2) := fun n Q => g2 (L, xs) 99 n Q
  simp only [↓s226_211, ↓s226_212, ↓s226_213, ↓s226_214, ↓s226_215, ↓s226_216, ↓s226_217, ↓s226_218, ↓s226_219, ↓s226_220, ↓s226_221, ↓s226_222, ↓s226_223, ↓s226_224, ↓s226_225, ↓s226_226, ↓s226_227, ↓s226_228, ↓s226_229, ↓s226_230, ↓s226_231, ↓s226_232, ↓s226_233, ↓s226_234, ↓s226_235, ↓s226_236, ↓s226_237, ↓s226_240, ↓s226_241, ↓s226_242, ↓s226_243, ↓s226_244, ↓s226_245, ↓s226_246, ↓s226_247, ↓s226_248, ↓s226_249, ↓s226_250, ↓s226_251, ↓s226_252, ↓s226_253, ↓s226_254, ↓s226_255, ↓s226_256, ↓s226_257, ↓s226_258, ↓s226_259, ↓s226_260, ↓s226_261, ↓s226_262, ↓s226_263, ↓s226_264, ↓s226_265, ↓s226_266, ↓s226_269, ↓s226_1085, ↓s226_1088, nI_add, al_o0 (show i + 1 < L by omega) hL, al_o0 (show i + 2 < L by omega) hL, al_o0 (show i + 3 < L by omega) hL, al_o0 (show i + 4 < L by omega) hL, al_o0 (show i + 5 < L by omega) hL, jc_20, jc_84, ↓k1, ↓k2, ct_s, ct_n, ↓bI_01, bI_eq0, bI_eq1, nI_10, nI_01, dec_f, dec_t, if_n, eq_self, true_or, or_true, if_true, if_false, reduceIte]
  exact hx0 M2 N2 hI2
theorem lw_2 (hx0 : LQ L xs Q (i + 6)) (hI : Inv M N) (hi : i + 6 ≤ L) (hL : L ≤ 384) : ax_W 1000 226 274 [.ref 0, .ref 20, .ref 84, .int (nI i)] [] 82 (hx (L, xs) M N) Q := by
  obtain ⟨v, M1, N1, M2, N2, g1, g2, hI2⟩ := (p2 hI : RPi 83 148 [.ref 20, .int (xs (i + 1)), .int (xs (i + 2)), .int (xs (i + 3)), ax_dm] [.ref 84, .int (xs (i + 1)), .int (xs (i + 2)), .int (xs (i + 3)), ax_dm] M N)
  have k1 : ∀ (n : Nat) (Q : Option Value → Nat → ax_H → Prop), ax_W 999 83 0 [.ref 20, .int (xs (i + 1)), .int (xs (i + 2)), .int (xs (i + 3)), ax_dm] [] n (hx (L, xs) M N) Q = Q (some (.int v)) n (hx (L, xs) M1 N1) := fun n Q => g1 (L, xs) 99 n Q
  have k2 : ∀ (n : Nat) (Q : Option Value → Nat → ax_H → Prop), ax_W 999 148 0 [.ref 84, .int (xs (i + 1)), .int (xs (i + 2)), .int (xs (i + 3)), ax_dm] [] n (hx (L, xs) M1 N1) Q = Q (some (.int v)) n (hx (L, xs) M2 N2) := fun n Q => g2 (L, xs) 99 n Q
  simp only [↓s226_274, ↓s226_275, ↓s226_276, ↓s226_277, ↓s226_278, ↓s226_279, ↓s226_280, ↓s226_281, ↓s226_282, ↓s226_283, ↓s226_284, ↓s226_285, ↓s226_286, ↓s226_287, ↓s226_288, ↓s226_289, ↓s226_290, ↓s226_293, ↓s226_294, ↓s226_295, ↓s226_296, ↓s226_297, ↓s226_298, ↓s226_299, ↓s226_300, ↓s226_301, ↓s226_302, ↓s226_303, ↓s226_304, ↓s226_305, ↓s226_306, ↓s226_307, ↓s226_308, ↓s226_309, ↓s226_312, ↓s226_1085, ↓s226_1088, nI_add, al_o0 (show i + 1 < L by omega) hL, al_o0 (show i + 2 < L by omega) hL, al_o0 (show i + 3 < L by omega) hL, jc_20, jc_84, ↓k1, ↓k2, ct_s, ct_n, ↓bI_01, bI_eq0, bI_eq1, nI_10, nI_01, dec_f, dec_t, if_n, eq_self, true_or, or_true, if_true, if_false, reduceIte]
  exact hx0 M2 N2 hI2
theorem lw_3 (hx0 : LQ L xs Q (i + 6)) (hI : Inv M N) (hi : i + 6 ≤ L) (hL : L ≤ 384) : ax_W 1000 226 317 [.ref 0, .ref 20, .ref 84, .int (nI i)] [] 82 (hx (L, xs) M N) Q := by
  obtain ⟨v, M1, N1, M2, N2, g1, g2, hI2⟩ := (p3 hI : RPi 84 149 [.ref 20, .int (xs (i + 1)), ax_dm] [.ref 84, .int (xs (i + 1)), ax_dm] M N)
  have k1 : ∀ (n : Nat) (Q : Option Value → Nat → ax_H → Prop), ax_W 999 84 0 [.ref 20, .int (xs (i + 1)), ax_dm] [] n (hx (L, xs) M N) Q = Q (some (.int v)) n (hx (L, xs) M1 N1) := fun n Q => g1 (L, xs) 99 n Q
  have k2 : ∀ (n : Nat) (Q : Option Value → Nat → ax_H → Prop), ax_W 999 149 0 [.ref 84, .int (xs (i + 1)), ax_dm] [] n (hx (L, xs) M1 N1) Q = Q (some (.int v)) n (hx (L, xs) M2 N2) := fun n Q => g2 (L, xs) 99 n Q
  simp only [↓s226_317, ↓s226_318, ↓s226_319, ↓s226_320, ↓s226_321, ↓s226_322, ↓s226_323, ↓s226_326, ↓s226_327, ↓s226_328, ↓s226_329, ↓s226_330, ↓s226_331, ↓s226_332, ↓s226_335, ↓s226_1085, ↓s226_1088, nI_add, al_o0 (show i + 1 < L by omega) hL, jc_20, jc_84, ↓k1, ↓k2, ct_s, ct_n, ↓bI_01, bI_eq0, bI_eq1, nI_10, nI_01, dec_f, dec_t, if_n, eq_self, true_or, or_true, if_true, if_false, reduceIte]
  exact hx0 M2 N2 hI2
theorem lw_4 (hx0 : LQ L xs Q (i + 6)) (hI : Inv M N) (hi : i + 6 ≤ L) (hL : L ≤ 384) : ax_W 1000 226 340 [.ref 0, .ref 20, .ref 84, .int (nI i)] [] 82 (hx (L, xs) M N) Q := by
  obtain ⟨v, M1, N1, M2, N2, g1, g2, hI2⟩ := (p4 hI : RPi 85 197 [.ref 20, .int (xs (i + 1)), ax_dm] [.ref 84, .int (xs (i + 1))] M N)
  have k1 : ∀ (n : Nat) (Q : Option Value → Nat → ax_H → Prop), ax_W 999 85 0 [.ref 20, .int (xs (i + 1)), ax_dm] [] n (hx (L, xs) M N) Q = Q (some (.int v)) n (hx (L, xs) M1 N1) := fun n Q => g1 (L, xs) 99 n Q
  have k2 : ∀ (n : Nat) (Q : Option Value → Nat → ax_H → Prop), ax_W 999 197 0 [.ref 84, .int (xs (i + 1))] [] n (hx (L, xs) M1 N1) Q = Q (some (.int v)) n (hx (L, xs) M2 N2) := fun n Q => g2 (L, xs) 99 n Q
  simp only [↓s226_340, ↓s226_341, ↓s226_342, ↓s226_343, ↓s226_344, ↓s226_345, ↓s226_346, ↓s226_349, ↓s226_350, ↓s226_351, ↓s226_352, ↓s226_353, ↓s226_354, ↓s226_355, ↓s226_358, ↓s226_1085, ↓s226_1088, nI_add, al_o0 (show i + 1 < L by omega) hL, jc_20, jc_84, ↓k1, ↓k2, ct_s, ct_n, ↓bI_01, bI_eq0, bI_eq1, nI_10, nI_01, dec_f, dec_t, if_n, eq_self, true_or, or_true, if_true, if_false, reduceIte]
  exact hx0 M2 N2 hI2
theorem lw_5 (hx0 : LQ L xs Q (i + 6)) (hI : Inv M N) (hi : i + 6 ≤ L) (hL : L ≤ 384) : ax_W 1000 226 363 [.ref 0, .ref 20, .ref 84, .int (nI i)] [] 82 (hx (L, xs) M N) Q := by
  obtain ⟨v, M1, N1, M2, N2, g1, g2, hI2⟩ := (p5 hI : RPi 86 198 [.ref 20, ax_dm] [.ref 84, ax_dm] M N)
  have k1 : ∀ (n : Nat) (Q : Option Value → Nat → ax_H → Prop), ax_W 999 86 0 [.ref 20, ax_dm] [] n (hx (L, xs) M N) Q = Q (some (.int v)) n (hx (L, xs) M1 N1) := fun n Q => g1 (L, xs) 99 n Q
  have k2 : ∀ (n : Nat) (Q : Option Value → Nat → ax_H → Prop), ax_W 999 198 0 [.ref 84, ax_dm] [] n (hx (L, xs) M1 N1) Q = Q (some (.int v)) n (hx (L, xs) M2 N2) := fun n Q => g2 (L, xs) 99 n Q
  simp only [↓s226_363, ↓s226_364, ↓s226_367, ↓s226_368, ↓s226_371, ↓s226_1085, ↓s226_1088, nI_add, jc_20, jc_84, ↓k1, ↓k2, ct_s, ct_n, ↓bI_01, bI_eq0, bI_eq1, nI_10, nI_01, dec_f, dec_t, if_n, eq_self, true_or, or_true, if_true, if_false, reduceIte]
  exact hx0 M2 N2 hI2
theorem lw_6 (hx0 : LQ L xs Q (i + 6)) (hI : Inv M N) (hi : i + 6 ≤ L) (hL : L ≤ 384) : ax_W 1000 226 376 [.ref 0, .ref 20, .ref 84, .int (nI i)] [] 82 (hx (L, xs) M N) Q := by
  obtain ⟨v, M1, N1, M2, N2, g1, g2, hI2⟩ := (p6 hI : RPi 87 209 [.ref 20, ax_dm] [.ref 84, ax_dm, ax_dm] M N)
  have k1 : ∀ (n : Nat) (Q : Option Value → Nat → ax_H → Prop), ax_W 999 87 0 [.ref 20, ax_dm] [] n (hx (L, xs) M N) Q = Q (some (.int v)) n (hx (L, xs) M1 N1) := fun n Q => g1 (L, xs) 99 n Q
  have k2 : ∀ (n : Nat) (Q : Option Value → Nat → ax_H → Prop), ax_W 999 209 0 [.ref 84, ax_dm, ax_dm] [] n (hx (L, xs) M1 N1) Q = Q (some (.int v)) n (hx (L, xs) M2 N2) := fun n Q => g2 (L, xs) 99 n Q
  simp only [↓s226_376, ↓s226_377, ↓s226_380, ↓s226_381, ↓s226_384, ↓s226_1085, ↓s226_1088, nI_add, jc_20, jc_84, ↓k1, ↓k2, ct_s, ct_n, ↓bI_01, bI_eq0, bI_eq1, nI_10, nI_01, dec_f, dec_t, if_n, eq_self, true_or, or_true, if_true, if_false, reduceIte]
  exact hx0 M2 N2 hI2
theorem lw_7 (hx0 : LQ L xs Q (i + 6)) (hI : Inv M N) (hi : i + 6 ≤ L) (hL : L ≤ 384) : ax_W 1000 226 389 [.ref 0, .ref 20, .ref 84, .int (nI i)] [] 82 (hx (L, xs) M N) Q := by
  obtain ⟨v, M1, N1, M2, N2, g1, g2, hI2⟩ := (p7 hI : RPi 88 161 [.ref 20, .int (xs (i + 1)), .int (xs (i + 2))] [.ref 84, .int (xs (i + 1)), .int (xs (i + 2)), ax_dm, ax_dm] M N)
  have k1 : ∀ (n : Nat) (Q : Option Value → Nat → ax_H → Prop), ax_W 999 88 0 [.ref 20, .int (xs (i + 1)), .int (xs (i + 2))] [] n (hx (L, xs) M N) Q = Q (some (.int v)) n (hx (L, xs) M1 N1) := fun n Q => g1 (L, xs) 99 n Q
  have k2 : ∀ (n : Nat) (Q : Option Value → Nat → ax_H → Prop), ax_W 999 161 0 [.ref 84, .int (xs (i + 1)), .int (xs (i + 2)), ax_dm, ax_dm] [] n (hx (L, xs) M1 N1) Q = Q (some (.int v)) n (hx (L, xs) M2 N2) := fun n Q => g2 (L, xs) 99 n Q
  simp only [↓s226_389, ↓s226_390, ↓s226_391, ↓s226_392, ↓s226_393, ↓s226_394, ↓s226_395, ↓s226_396, ↓s226_397, ↓s226_398, ↓s226_399, ↓s226_400, ↓s226_403, ↓s226_404, ↓s226_405, ↓s226_406, ↓s226_407, ↓s226_408, ↓s226_409, ↓s226_410, ↓s226_411, ↓s226_412, ↓s226_413, ↓s226_414, ↓s226_417, ↓s226_1085, ↓s226_1088, nI_add, al_o0 (show i + 1 < L by omega) hL, al_o0 (show i + 2 < L by omega) hL, jc_20, jc_84, ↓k1, ↓k2, ct_s, ct_n, ↓bI_01, bI_eq0, bI_eq1, nI_10, nI_01, dec_f, dec_t, if_n, eq_self, true_or, or_true, if_true, if_false, reduceIte]
  exact hx0 M2 N2 hI2
theorem lw_8 (hx0 : LQ L xs Q (i + 6)) (hI : Inv M N) (hi : i + 6 ≤ L) (hL : L ≤ 384) : ax_W 1000 226 422 [.ref 0, .ref 20, .ref 84, .int (nI i)] [] 82 (hx (L, xs) M N) Q := by
  obtain ⟨v, M1, N1, M2, N2, g1, g2, hI2⟩ := (p8 hI : RPi 89 162 [.ref 20] [.ref 84] M N)
  have k1 : ∀ (n : Nat) (Q : Option Value → Nat → ax_H → Prop), ax_W 999 89 0 [.ref 20] [] n (hx (L, xs) M N) Q = Q (some (.int v)) n (hx (L, xs) M1 N1) := fun n Q => g1 (L, xs) 99 n Q
  have k2 : ∀ (n : Nat) (Q : Option Value → Nat → ax_H → Prop), ax_W 999 162 0 [.ref 84] [] n (hx (L, xs) M1 N1) Q = Q (some (.int v)) n (hx (L, xs) M2 N2) := fun n Q => g2 (L, xs) 99 n Q
  simp only [↓s226_422, ↓s226_423, ↓s226_426, ↓s226_427, ↓s226_430, ↓s226_1085, ↓s226_1088, nI_add, jc_20, jc_84, ↓k1, ↓k2, ct_s, ct_n, ↓bI_01, bI_eq0, bI_eq1, nI_10, nI_01, dec_f, dec_t, if_n, eq_self, true_or, or_true, if_true, if_false, reduceIte]
  exact hx0 M2 N2 hI2
theorem lw_9 (hx0 : LQ L xs Q (i + 6)) (hI : Inv M N) (hi : i + 6 ≤ L) (hL : L ≤ 384) : ax_W 1000 226 435 [.ref 0, .ref 20, .ref 84, .int (nI i)] [] 82 (hx (L, xs) M N) Q := by
  obtain ⟨v, M1, N1, M2, N2, g1, g2, hI2⟩ := (p9 hI : RPi 90 163 [.ref 20, .int (xs (i + 1)), .int (xs (i + 2))] [.ref 84, .int (xs (i + 1)), .int (xs (i + 2))] M N)
  have k1 : ∀ (n : Nat) (Q : Option Value → Nat → ax_H → Prop), ax_W 999 90 0 [.ref 20, .int (xs (i + 1)), .int (xs (i + 2))] [] n (hx (L, xs) M N) Q = Q (some (.int v)) n (hx (L, xs) M1 N1) := fun n Q => g1 (L, xs) 99 n Q
  have k2 : ∀ (n : Nat) (Q : Option Value → Nat → ax_H → Prop), ax_W 999 163 0 [.ref 84, .int (xs (i + 1)), .int (xs (i + 2))] [] n (hx (L, xs) M1 N1) Q = Q (some (.int v)) n (hx (L, xs) M2 N2) := fun n Q => g2 (L, xs) 99 n Q
  simp only [↓s226_435, ↓s226_436, ↓s226_437, ↓s226_438, ↓s226_439, ↓s226_440, ↓s226_441, ↓s226_442, ↓s226_443, ↓s226_444, ↓s226_445, ↓s226_446, ↓s226_449, ↓s226_450, ↓s226_451, ↓s226_452, ↓s226_453, ↓s226_454, ↓s226_455, ↓s226_456, ↓s226_457, ↓s226_458, ↓s226_459, ↓s226_460, ↓s226_463, ↓s226_1085, ↓s226_1088, nI_add, al_o0 (show i + 1 < L by omega) hL, al_o0 (show i + 2 < L by omega) hL, jc_20, jc_84, ↓k1, ↓k2, ct_s, ct_n, ↓bI_01, bI_eq0, bI_eq1, nI_10, nI_01, dec_f, dec_t, if_n, eq_self, true_or, or_true, if_true, if_false, reduceIte]
  exact hx0 M2 N2 hI2
theorem lw_10 (hx0 : LQ L xs Q (i + 6)) (hI : Inv M N) (hi : i + 6 ≤ L) (hL : L ≤ 384) : ax_W 1000 226 468 [.ref 0, .ref 20, .ref 84, .int (nI i)] [] 82 (hx (L, xs) M N) Q := by
  obtain ⟨v, M1, N1, M2, N2, g1, g2, hI2⟩ := (p10 hI : RPi 91 164 [.ref 20, .int (xs (i + 1)), .int (xs (i + 2))] [.ref 84, .int (xs (i + 1)), .int (xs (i + 2))] M N)
  have k1 : ∀ (n : Nat) (Q : Option Value → Nat → ax_H → Prop), ax_W 999 91 0 [.ref 20, .int (xs (i + 1)), .int (xs (i + 2))] [] n (hx (L, xs) M N) Q = Q (some (.int v)) n (hx (L, xs) M1 N1) := fun n Q => g1 (L, xs) 99 n Q
  have k2 : ∀ (n : Nat) (Q : Option Value → Nat → ax_H → Prop), ax_W 999 164 0 [.ref 84, .int (xs (i + 1)), .int (xs (i + 2))] [] n (hx (L, xs) M1 N1) Q = Q (some (.int v)) n (hx (L, xs) M2 N2) := fun n Q => g2 (L, xs) 99 n Q
  simp only [↓s226_468, ↓s226_469, ↓s226_470, ↓s226_471, ↓s226_472, ↓s226_473, ↓s226_474, ↓s226_475, ↓s226_476, ↓s226_477, ↓s226_478, ↓s226_479, ↓s226_482, ↓s226_483, ↓s226_484, ↓s226_485, ↓s226_486, ↓s226_487, ↓s226_488, ↓s226_489, ↓s226_490, ↓s226_491, ↓s226_492, ↓s226_493, ↓s226_496, ↓s226_1085, ↓s226_1088, nI_add, al_o0 (show i + 1 < L by omega) hL, al_o0 (show i + 2 < L by omega) hL, jc_20, jc_84, ↓k1, ↓k2, ct_s, ct_n, ↓bI_01, bI_eq0, bI_eq1, nI_10, nI_01, dec_f, dec_t, if_n, eq_self, true_or, or_true, if_true, if_false, reduceIte]
  exact hx0 M2 N2 hI2
theorem lw_11 (hx0 : LQ L xs Q (i + 6)) (hI : Inv M N) (hi : i + 6 ≤ L) (hL : L ≤ 384) : ax_W 1000 226 501 [.ref 0, .ref 20, .ref 84, .int (nI i)] [] 82 (hx (L, xs) M N) Q := by
  obtain ⟨v, M1, N1, M2, N2, g1, g2, hI2⟩ := (p11 hI : RPi 92 165 [.ref 20] [.ref 84] M N)
  have k1 : ∀ (n : Nat) (Q : Option Value → Nat → ax_H → Prop), ax_W 999 92 0 [.ref 20] [] n (hx (L, xs) M N) Q = Q (some (.int v)) n (hx (L, xs) M1 N1) := fun n Q => g1 (L, xs) 99 n Q
  have k2 : ∀ (n : Nat) (Q : Option Value → Nat → ax_H → Prop), ax_W 999 165 0 [.ref 84] [] n (hx (L, xs) M1 N1) Q = Q (some (.int v)) n (hx (L, xs) M2 N2) := fun n Q => g2 (L, xs) 99 n Q
  simp only [↓s226_501, ↓s226_502, ↓s226_505, ↓s226_506, ↓s226_509, ↓s226_1085, ↓s226_1088, nI_add, jc_20, jc_84, ↓k1, ↓k2, ct_s, ct_n, ↓bI_01, bI_eq0, bI_eq1, nI_10, nI_01, dec_f, dec_t, if_n, eq_self, true_or, or_true, if_true, if_false, reduceIte]
  exact hx0 M2 N2 hI2
theorem lw_12 (hx0 : LQ L xs Q (i + 6)) (hI : Inv M N) (hi : i + 6 ≤ L) (hL : L ≤ 384) : ax_W 1000 226 514 [.ref 0, .ref 20, .ref 84, .int (nI i)] [] 82 (hx (L, xs) M N) Q := by
  obtain ⟨v, M1, N1, M2, N2, g1, g2, hI2⟩ := (p12 hI : RPi 93 166 [.ref 20] [.ref 84] M N)
  have k1 : ∀ (n : Nat) (Q : Option Value → Nat → ax_H → Prop), ax_W 999 93 0 [.ref 20] [] n (hx (L, xs) M N) Q = Q (some (.int v)) n (hx (L, xs) M1 N1) := fun n Q => g1 (L, xs) 99 n Q
  have k2 : ∀ (n : Nat) (Q : Option Value → Nat → ax_H → Prop), ax_W 999 166 0 [.ref 84] [] n (hx (L, xs) M1 N1) Q = Q (some (.int v)) n (hx (L, xs) M2 N2) := fun n Q => g2 (L, xs) 99 n Q
  simp only [↓s226_514, ↓s226_515, ↓s226_518, ↓s226_519, ↓s226_522, ↓s226_1085, ↓s226_1088, nI_add, jc_20, jc_84, ↓k1, ↓k2, ct_s, ct_n, ↓bI_01, bI_eq0, bI_eq1, nI_10, nI_01, dec_f, dec_t, if_n, eq_self, true_or, or_true, if_true, if_false, reduceIte]
  exact hx0 M2 N2 hI2
theorem lw_13 (hx0 : LQ L xs Q (i + 6)) (hI : Inv M N) (hi : i + 6 ≤ L) (hL : L ≤ 384) : ax_W 1000 226 527 [.ref 0, .ref 20, .ref 84, .int (nI i)] [] 82 (hx (L, xs) M N) Q := by
  obtain ⟨v, M1, N1, M2, N2, g1, g2, hI2⟩ := (p13 hI : RPi 94 167 [.ref 20, .int (xs (i + 1))] [.ref 84, .int (xs (i + 1)), ax_dm] M N)
  have k1 : ∀ (n : Nat) (Q : Option Value → Nat → ax_H → Prop), ax_W 999 94 0 [.ref 20, .int (xs (i + 1))] [] n (hx (L, xs) M N) Q = Q (some (.int v)) n (hx (L, xs) M1 N1) := fun n Q => g1 (L, xs) 99 n Q
  have k2 : ∀ (n : Nat) (Q : Option Value → Nat → ax_H → Prop), ax_W 999 167 0 [.ref 84, .int (xs (i + 1)), ax_dm] [] n (hx (L, xs) M1 N1) Q = Q (some (.int v)) n (hx (L, xs) M2 N2) := fun n Q => g2 (L, xs) 99 n Q
  simp only [↓s226_527, ↓s226_528, ↓s226_529, ↓s226_530, ↓s226_531, ↓s226_532, ↓s226_533, ↓s226_536, ↓s226_537, ↓s226_538, ↓s226_539, ↓s226_540, ↓s226_541, ↓s226_542, ↓s226_545, ↓s226_1085, ↓s226_1088, nI_add, al_o0 (show i + 1 < L by omega) hL, jc_20, jc_84, ↓k1, ↓k2, ct_s, ct_n, ↓bI_01, bI_eq0, bI_eq1, nI_10, nI_01, dec_f, dec_t, if_n, eq_self, true_or, or_true, if_true, if_false, reduceIte]
  exact hx0 M2 N2 hI2
theorem lw_14 (hx0 : LQ L xs Q (i + 6)) (hI : Inv M N) (hi : i + 6 ≤ L) (hL : L ≤ 384) : ax_W 1000 226 550 [.ref 0, .ref 20, .ref 84, .int (nI i)] [] 82 (hx (L, xs) M N) Q := by
  obtain ⟨v, M1, N1, M2, N2, g1, g2, hI2⟩ := (p14 hI : RPi 95 168 [.ref 20, ax_dm] [.ref 84, ax_dm] M N)
  have k1 : ∀ (n : Nat) (Q : Option Value → Nat → ax_H → Prop), ax_W 999 95 0 [.ref 20, ax_dm] [] n (hx (L, xs) M N) Q = Q (some (.int v)) n (hx (L, xs) M1 N1) := fun n Q => g1 (L, xs) 99 n Q
  have k2 : ∀ (n : Nat) (Q : Option Value → Nat → ax_H → Prop), ax_W 999 168 0 [.ref 84, ax_dm] [] n (hx (L, xs) M1 N1) Q = Q (some (.int v)) n (hx (L, xs) M2 N2) := fun n Q => g2 (L, xs) 99 n Q
  simp only [↓s226_550, ↓s226_551, ↓s226_554, ↓s226_555, ↓s226_558, ↓s226_1085, ↓s226_1088, nI_add, jc_20, jc_84, ↓k1, ↓k2, ct_s, ct_n, ↓bI_01, bI_eq0, bI_eq1, nI_10, nI_01, dec_f, dec_t, if_n, eq_self, true_or, or_true, if_true, if_false, reduceIte]
  exact hx0 M2 N2 hI2
theorem lw_15 (hx0 : LQ L xs Q (i + 6)) (hI : Inv M N) (hi : i + 6 ≤ L) (hL : L ≤ 384) : ax_W 1000 226 563 [.ref 0, .ref 20, .ref 84, .int (nI i)] [] 82 (hx (L, xs) M N) Q := by
  obtain ⟨v, M1, N1, M2, N2, g1, g2, hI2⟩ := (p15 hI : RPi 96 171 [.ref 20, .int (xs (i + 1))] [.ref 84, .int (xs (i + 1))] M N)
  have k1 : ∀ (n : Nat) (Q : Option Value → Nat → ax_H → Prop), ax_W 999 96 0 [.ref 20, .int (xs (i + 1))] [] n (hx (L, xs) M N) Q = Q (some (.int v)) n (hx (L, xs) M1 N1) := fun n Q => g1 (L, xs) 99 n Q
  have k2 : ∀ (n : Nat) (Q : Option Value → Nat → ax_H → Prop), ax_W 999 171 0 [.ref 84, .int (xs (i + 1))] [] n (hx (L, xs) M1 N1) Q = Q (some (.int v)) n (hx (L, xs) M2 N2) := fun n Q => g2 (L, xs) 99 n Q
  simp only [↓s226_563, ↓s226_564, ↓s226_565, ↓s226_566, ↓s226_567, ↓s226_568, ↓s226_569, ↓s226_572, ↓s226_573, ↓s226_574, ↓s226_575, ↓s226_576, ↓s226_577, ↓s226_578, ↓s226_581, ↓s226_1085, ↓s226_1088, nI_add, al_o0 (show i + 1 < L by omega) hL, jc_20, jc_84, ↓k1, ↓k2, ct_s, ct_n, ↓bI_01, bI_eq0, bI_eq1, nI_10, nI_01, dec_f, dec_t, if_n, eq_self, true_or, or_true, if_true, if_false, reduceIte]
  exact hx0 M2 N2 hI2
theorem lw_16 (hx0 : LQ L xs Q (i + 6)) (hI : Inv M N) (hi : i + 6 ≤ L) (hL : L ≤ 384) : ax_W 1000 226 586 [.ref 0, .ref 20, .ref 84, .int (nI i)] [] 82 (hx (L, xs) M N) Q := by
  obtain ⟨v, M1, N1, M2, N2, g1, g2, hI2⟩ := (p16 hI : RPi 97 172 [.ref 20, .int (xs (i + 1)), .int (xs (i + 2))] [.ref 84, .int (xs (i + 1)), .int (xs (i + 2))] M N)
  have k1 : ∀ (n : Nat) (Q : Option Value → Nat → ax_H → Prop), ax_W 999 97 0 [.ref 20, .int (xs (i + 1)), .int (xs (i + 2))] [] n (hx (L, xs) M N) Q = Q (some (.int v)) n (hx (L, xs) M1 N1) := fun n Q => g1 (L, xs) 99 n Q
  have k2 : ∀ (n : Nat) (Q : Option Value → Nat → ax_H → Prop), ax_W 999 172 0 [.ref 84, .int (xs (i + 1)), .int (xs (i + 2))] [] n (hx (L, xs) M1 N1) Q = Q (some (.int v)) n (hx (L, xs) M2 N2) := fun n Q => g2 (L, xs) 99 n Q
  simp only [↓s226_586, ↓s226_587, ↓s226_588, ↓s226_589, ↓s226_590, ↓s226_591, ↓s226_592, ↓s226_593, ↓s226_594, ↓s226_595, ↓s226_596, ↓s226_597, ↓s226_600, ↓s226_601, ↓s226_602, ↓s226_603, ↓s226_604, ↓s226_605, ↓s226_606, ↓s226_607, ↓s226_608, ↓s226_609, ↓s226_610, ↓s226_611, ↓s226_614, ↓s226_1085, ↓s226_1088, nI_add, al_o0 (show i + 1 < L by omega) hL, al_o0 (show i + 2 < L by omega) hL, jc_20, jc_84, ↓k1, ↓k2, ct_s, ct_n, ↓bI_01, bI_eq0, bI_eq1, nI_10, nI_01, dec_f, dec_t, if_n, eq_self, true_or, or_true, if_true, if_false, reduceIte]
  exact hx0 M2 N2 hI2
theorem lw_17 (hx0 : LQ L xs Q (i + 6)) (hI : Inv M N) (hi : i + 6 ≤ L) (hL : L ≤ 384) : ax_W 1000 226 619 [.ref 0, .ref 20, .ref 84, .int (nI i)] [] 82 (hx (L, xs) M N) Q := by
  obtain ⟨v, M1, N1, M2, N2, g1, g2, hI2⟩ := (p17 hI : RPi 98 177 [.ref 20, .int (xs (i + 1)), .int (xs (i + 2))] [.ref 84, .int (xs (i + 1)), .int (xs (i + 2))] M N)
  have k1 : ∀ (n : Nat) (Q : Option Value → Nat → ax_H → Prop), ax_W 999 98 0 [.ref 20, .int (xs (i + 1)), .int (xs (i + 2))] [] n (hx (L, xs) M N) Q = Q (some (.int v)) n (hx (L, xs) M1 N1) := fun n Q => g1 (L, xs) 99 n Q
  have k2 : ∀ (n : Nat) (Q : Option Value → Nat → ax_H → Prop), ax_W 999 177 0 [.ref 84, .int (xs (i + 1)), .int (xs (i + 2))] [] n (hx (L, xs) M1 N1) Q = Q (some (.int v)) n (hx (L, xs) M2 N2) := fun n Q => g2 (L, xs) 99 n Q
  simp only [↓s226_619, ↓s226_620, ↓s226_621, ↓s226_622, ↓s226_623, ↓s226_624, ↓s226_625, ↓s226_626, ↓s226_627, ↓s226_628, ↓s226_629, ↓s226_630, ↓s226_633, ↓s226_634, ↓s226_635, ↓s226_636, ↓s226_637, ↓s226_638, ↓s226_639, ↓s226_640, ↓s226_641, ↓s226_642, ↓s226_643, ↓s226_644, ↓s226_647, ↓s226_1085, ↓s226_1088, nI_add, al_o0 (show i + 1 < L by omega) hL, al_o0 (show i + 2 < L by omega) hL, jc_20, jc_84, ↓k1, ↓k2, ct_s, ct_n, ↓bI_01, bI_eq0, bI_eq1, nI_10, nI_01, dec_f, dec_t, if_n, eq_self, true_or, or_true, if_true, if_false, reduceIte]
  exact hx0 M2 N2 hI2
theorem lw_18 (hx0 : LQ L xs Q (i + 6)) (hI : Inv M N) (hi : i + 6 ≤ L) (hL : L ≤ 384) : ax_W 1000 226 652 [.ref 0, .ref 20, .ref 84, .int (nI i)] [] 82 (hx (L, xs) M N) Q := by
  obtain ⟨v, M1, N1, M2, N2, g1, g2, hI2⟩ := (p18 hI : RPi 99 178 [.ref 20, .int (xs (i + 1)), .int (xs (i + 2))] [.ref 84, .int (xs (i + 1)), .int (xs (i + 2)), ax_dm] M N)
  have k1 : ∀ (n : Nat) (Q : Option Value → Nat → ax_H → Prop), ax_W 999 99 0 [.ref 20, .int (xs (i + 1)), .int (xs (i + 2))] [] n (hx (L, xs) M N) Q = Q (some (.int v)) n (hx (L, xs) M1 N1) := fun n Q => g1 (L, xs) 99 n Q
  have k2 : ∀ (n : Nat) (Q : Option Value → Nat → ax_H → Prop), ax_W 999 178 0 [.ref 84, .int (xs (i + 1)), .int (xs (i + 2)), ax_dm] [] n (hx (L, xs) M1 N1) Q = Q (some (.int v)) n (hx (L, xs) M2 N2) := fun n Q => g2 (L, xs) 99 n Q
  simp only [↓s226_652, ↓s226_653, ↓s226_654, ↓s226_655, ↓s226_656, ↓s226_657, ↓s226_658, ↓s226_659, ↓s226_660, ↓s226_661, ↓s226_662, ↓s226_663, ↓s226_666, ↓s226_667, ↓s226_668, ↓s226_669, ↓s226_670, ↓s226_671, ↓s226_672, ↓s226_673, ↓s226_674, ↓s226_675, ↓s226_676, ↓s226_677, ↓s226_680, ↓s226_1085, ↓s226_1088, nI_add, al_o0 (show i + 1 < L by omega) hL, al_o0 (show i + 2 < L by omega) hL, jc_20, jc_84, ↓k1, ↓k2, ct_s, ct_n, ↓bI_01, bI_eq0, bI_eq1, nI_10, nI_01, dec_f, dec_t, if_n, eq_self, true_or, or_true, if_true, if_false, reduceIte]
  exact hx0 M2 N2 hI2
theorem lw_19 (hx0 : LQ L xs Q (i + 6)) (hI : Inv M N) (hi : i + 6 ≤ L) (hL : L ≤ 384) : ax_W 1000 226 685 [.ref 0, .ref 20, .ref 84, .int (nI i)] [] 82 (hx (L, xs) M N) Q := by
  obtain ⟨v, M1, N1, M2, N2, g1, g2, hI2⟩ := (p19 hI : RPi 100 182 [.ref 20, .int (xs (i + 1)), .int (xs (i + 2))] [.ref 84, .int (xs (i + 1)), .int (xs (i + 2))] M N)
  have k1 : ∀ (n : Nat) (Q : Option Value → Nat → ax_H → Prop), ax_W 999 100 0 [.ref 20, .int (xs (i + 1)), .int (xs (i + 2))] [] n (hx (L, xs) M N) Q = Q (some (.int v)) n (hx (L, xs) M1 N1) := fun n Q => g1 (L, xs) 99 n Q
  have k2 : ∀ (n : Nat) (Q : Option Value → Nat → ax_H → Prop), ax_W 999 182 0 [.ref 84, .int (xs (i + 1)), .int (xs (i + 2))] [] n (hx (L, xs) M1 N1) Q = Q (some (.int v)) n (hx (L, xs) M2 N2) := fun n Q => g2 (L, xs) 99 n Q
  simp only [↓s226_685, ↓s226_686, ↓s226_687, ↓s226_688, ↓s226_689, ↓s226_690, ↓s226_691, ↓s226_692, ↓s226_693, ↓s226_694, ↓s226_695, ↓s226_696, ↓s226_699, ↓s226_700, ↓s226_701, ↓s226_702, ↓s226_703, ↓s226_704, ↓s226_705, ↓s226_706, ↓s226_707, ↓s226_708, ↓s226_709, ↓s226_710, ↓s226_713, ↓s226_1085, ↓s226_1088, nI_add, al_o0 (show i + 1 < L by omega) hL, al_o0 (show i + 2 < L by omega) hL, jc_20, jc_84, ↓k1, ↓k2, ct_s, ct_n, ↓bI_01, bI_eq0, bI_eq1, nI_10, nI_01, dec_f, dec_t, if_n, eq_self, true_or, or_true, if_true, if_false, reduceIte]
  exact hx0 M2 N2 hI2
theorem lw_20 (hx0 : LQ L xs Q (i + 6)) (hI : Inv M N) (hi : i + 6 ≤ L) (hL : L ≤ 384) : ax_W 1000 226 718 [.ref 0, .ref 20, .ref 84, .int (nI i)] [] 82 (hx (L, xs) M N) Q := by
  obtain ⟨v, M1, N1, M2, N2, g1, g2, hI2⟩ := (p20 hI : RPi 101 184 [.ref 20, .int (xs (i + 1)), ax_dm, ax_dm, ax_dm] [.ref 84, .int (xs (i + 1)), ax_dm, ax_dm, ax_dm, ax_dm, ax_dm] M N)
  have k1 : ∀ (n : Nat) (Q : Option Value → Nat → ax_H → Prop), ax_W 999 101 0 [.ref 20, .int (xs (i + 1)), ax_dm, ax_dm, ax_dm] [] n (hx (L, xs) M N) Q = Q (some (.int v)) n (hx (L, xs) M1 N1) := fun n Q => g1 (L, xs) 99 n Q
  have k2 : ∀ (n : Nat) (Q : Option Value → Nat → ax_H → Prop), ax_W 999 184 0 [.ref 84, .int (xs (i + 1)), ax_dm, ax_dm, ax_dm, ax_dm, ax_dm] [] n (hx (L, xs) M1 N1) Q = Q (some (.int v)) n (hx (L, xs) M2 N2) := fun n Q => g2 (L, xs) 99 n Q
  simp only [↓s226_718, ↓s226_719, ↓s226_720, ↓s226_721, ↓s226_722, ↓s226_723, ↓s226_724, ↓s226_727, ↓s226_728, ↓s226_729, ↓s226_730, ↓s226_731, ↓s226_732, ↓s226_733, ↓s226_736, ↓s226_1085, ↓s226_1088, nI_add, al_o0 (show i + 1 < L by omega) hL, jc_20, jc_84, ↓k1, ↓k2, ct_s, ct_n, ↓bI_01, bI_eq0, bI_eq1, nI_10, nI_01, dec_f, dec_t, if_n, eq_self, true_or, or_true, if_true, if_false, reduceIte]
  exact hx0 M2 N2 hI2
theorem lw_21 (hx0 : LQ L xs Q (i + 6)) (hI : Inv M N) (hi : i + 6 ≤ L) (hL : L ≤ 384) : ax_W 1000 226 741 [.ref 0, .ref 20, .ref 84, .int (nI i)] [] 82 (hx (L, xs) M N) Q := by
  obtain ⟨v, M1, N1, M2, N2, g1, g2, hI2⟩ := (p21 hI : RPi 102 185 [.ref 20, .int (xs (i + 1)), ax_dm, ax_dm] [.ref 84, .int (xs (i + 1)), ax_dm, ax_dm, ax_dm, ax_dm] M N)
  have k1 : ∀ (n : Nat) (Q : Option Value → Nat → ax_H → Prop), ax_W 999 102 0 [.ref 20, .int (xs (i + 1)), ax_dm, ax_dm] [] n (hx (L, xs) M N) Q = Q (some (.int v)) n (hx (L, xs) M1 N1) := fun n Q => g1 (L, xs) 99 n Q
  have k2 : ∀ (n : Nat) (Q : Option Value → Nat → ax_H → Prop), ax_W 999 185 0 [.ref 84, .int (xs (i + 1)), ax_dm, ax_dm, ax_dm, ax_dm] [] n (hx (L, xs) M1 N1) Q = Q (some (.int v)) n (hx (L, xs) M2 N2) := fun n Q => g2 (L, xs) 99 n Q
  simp only [↓s226_741, ↓s226_742, ↓s226_743, ↓s226_744, ↓s226_745, ↓s226_746, ↓s226_747, ↓s226_750, ↓s226_751, ↓s226_752, ↓s226_753, ↓s226_754, ↓s226_755, ↓s226_756, ↓s226_759, ↓s226_1085, ↓s226_1088, nI_add, al_o0 (show i + 1 < L by omega) hL, jc_20, jc_84, ↓k1, ↓k2, ct_s, ct_n, ↓bI_01, bI_eq0, bI_eq1, nI_10, nI_01, dec_f, dec_t, if_n, eq_self, true_or, or_true, if_true, if_false, reduceIte]
  exact hx0 M2 N2 hI2
theorem lw_22 (hx0 : LQ L xs Q (i + 6)) (hI : Inv M N) (hi : i + 6 ≤ L) (hL : L ≤ 384) : ax_W 1000 226 764 [.ref 0, .ref 20, .ref 84, .int (nI i)] [] 82 (hx (L, xs) M N) Q := by
  obtain ⟨v, M1, N1, M2, N2, g1, g2, hI2⟩ := (p22 hI : RPi 103 186 [.ref 20, .int (xs (i + 1)), .int (xs (i + 2))] [.ref 84, .int (xs (i + 1)), .int (xs (i + 2)), ax_dm, ax_dm] M N)
  have k1 : ∀ (n : Nat) (Q : Option Value → Nat → ax_H → Prop), ax_W 999 103 0 [.ref 20, .int (xs (i + 1)), .int (xs (i + 2))] [] n (hx (L, xs) M N) Q = Q (some (.int v)) n (hx (L, xs) M1 N1) := fun n Q => g1 (L, xs) 99 n Q
  have k2 : ∀ (n : Nat) (Q : Option Value → Nat → ax_H → Prop), ax_W 999 186 0 [.ref 84, .int (xs (i + 1)), .int (xs (i + 2)), ax_dm, ax_dm] [] n (hx (L, xs) M1 N1) Q = Q (some (.int v)) n (hx (L, xs) M2 N2) := fun n Q => g2 (L, xs) 99 n Q
  simp only [↓s226_764, ↓s226_765, ↓s226_766, ↓s226_767, ↓s226_768, ↓s226_769, ↓s226_770, ↓s226_771, ↓s226_772, ↓s226_773, ↓s226_774, ↓s226_775, ↓s226_778, ↓s226_779, ↓s226_780, ↓s226_781, ↓s226_782, ↓s226_783, ↓s226_784, ↓s226_785, ↓s226_786, ↓s226_787, ↓s226_788, ↓s226_789, ↓s226_792, ↓s226_1085, ↓s226_1088, nI_add, al_o0 (show i + 1 < L by omega) hL, al_o0 (show i + 2 < L by omega) hL, jc_20, jc_84, ↓k1, ↓k2, ct_s, ct_n, ↓bI_01, bI_eq0, bI_eq1, nI_10, nI_01, dec_f, dec_t, if_n, eq_self, true_or, or_true, if_true, if_false, reduceIte]
  exact hx0 M2 N2 hI2
theorem lw_23 (hx0 : LQ L xs Q (i + 6)) (hI : Inv M N) (hi : i + 6 ≤ L) (hL : L ≤ 384) : ax_W 1000 226 797 [.ref 0, .ref 20, .ref 84, .int (nI i)] [] 82 (hx (L, xs) M N) Q := by
  obtain ⟨v, M1, N1, M2, N2, g1, g2, hI2⟩ := (p23 hI : RPi 104 187 [.ref 20, ax_dm] [.ref 84, ax_dm] M N)
  have k1 : ∀ (n : Nat) (Q : Option Value → Nat → ax_H → Prop), ax_W 999 104 0 [.ref 20, ax_dm] [] n (hx (L, xs) M N) Q = Q (some (.int v)) n (hx (L, xs) M1 N1) := fun n Q => g1 (L, xs) 99 n Q
  have k2 : ∀ (n : Nat) (Q : Option Value → Nat → ax_H → Prop), ax_W 999 187 0 [.ref 84, ax_dm] [] n (hx (L, xs) M1 N1) Q = Q (some (.int v)) n (hx (L, xs) M2 N2) := fun n Q => g2 (L, xs) 99 n Q
  simp only [↓s226_797, ↓s226_798, ↓s226_801, ↓s226_802, ↓s226_805, ↓s226_1085, ↓s226_1088, nI_add, jc_20, jc_84, ↓k1, ↓k2, ct_s, ct_n, ↓bI_01, bI_eq0, bI_eq1, nI_10, nI_01, dec_f, dec_t, if_n, eq_self, true_or, or_true, if_true, if_false, reduceIte]
  exact hx0 M2 N2 hI2
theorem lw_24 (hx0 : LQ L xs Q (i + 6)) (hI : Inv M N) (hi : i + 6 ≤ L) (hL : L ≤ 384) : ax_W 1000 226 810 [.ref 0, .ref 20, .ref 84, .int (nI i)] [] 82 (hx (L, xs) M N) Q := by
  obtain ⟨v, M1, N1, M2, N2, g1, g2, hI2⟩ := (p24 hI : RPi 105 191 [.ref 20, .int (xs (i + 1))] [.ref 84, .int (xs (i + 1)), ax_dm, ax_dm, ax_dm] M N)
  have k1 : ∀ (n : Nat) (Q : Option Value → Nat → ax_H → Prop), ax_W 999 105 0 [.ref 20, .int (xs (i + 1))] [] n (hx (L, xs) M N) Q = Q (some (.int v)) n (hx (L, xs) M1 N1) := fun n Q => g1 (L, xs) 99 n Q
  have k2 : ∀ (n : Nat) (Q : Option Value → Nat → ax_H → Prop), ax_W 999 191 0 [.ref 84, .int (xs (i + 1)), ax_dm, ax_dm, ax_dm] [] n (hx (L, xs) M1 N1) Q = Q (some (.int v)) n (hx (L, xs) M2 N2) := fun n Q => g2 (L, xs) 99 n Q
  simp only [↓s226_810, ↓s226_811, ↓s226_812, ↓s226_813, ↓s226_814, ↓s226_815, ↓s226_816, ↓s226_819, ↓s226_820, ↓s226_821, ↓s226_822, ↓s226_823, ↓s226_824, ↓s226_825, ↓s226_828, ↓s226_1085, ↓s226_1088, nI_add, al_o0 (show i + 1 < L by omega) hL, jc_20, jc_84, ↓k1, ↓k2, ct_s, ct_n, ↓bI_01, bI_eq0, bI_eq1, nI_10, nI_01, dec_f, dec_t, if_n, eq_self, true_or, or_true, if_true, if_false, reduceIte]
  exact hx0 M2 N2 hI2
theorem lw_25 (hx0 : LQ L xs Q (i + 6)) (hI : Inv M N) (hi : i + 6 ≤ L) (hL : L ≤ 384) : ax_W 1000 226 833 [.ref 0, .ref 20, .ref 84, .int (nI i)] [] 82 (hx (L, xs) M N) Q := by
  obtain ⟨v, M1, N1, M2, N2, g1, g2, hI2⟩ := (p25 hI : RPi 106 192 [.ref 20, .int (xs (i + 1)), ax_dm, ax_dm] [.ref 84, .int (xs (i + 1)), ax_dm, ax_dm, ax_dm] M N)
  have k1 : ∀ (n : Nat) (Q : Option Value → Nat → ax_H → Prop), ax_W 999 106 0 [.ref 20, .int (xs (i + 1)), ax_dm, ax_dm] [] n (hx (L, xs) M N) Q = Q (some (.int v)) n (hx (L, xs) M1 N1) := fun n Q => g1 (L, xs) 99 n Q
  have k2 : ∀ (n : Nat) (Q : Option Value → Nat → ax_H → Prop), ax_W 999 192 0 [.ref 84, .int (xs (i + 1)), ax_dm, ax_dm, ax_dm] [] n (hx (L, xs) M1 N1) Q = Q (some (.int v)) n (hx (L, xs) M2 N2) := fun n Q => g2 (L, xs) 99 n Q
  simp only [↓s226_833, ↓s226_834, ↓s226_835, ↓s226_836, ↓s226_837, ↓s226_838, ↓s226_839, ↓s226_842, ↓s226_843, ↓s226_844, ↓s226_845, ↓s226_846, ↓s226_847, ↓s226_848, ↓s226_851, ↓s226_1085, ↓s226_1088, nI_add, al_o0 (show i + 1 < L by omega) hL, jc_20, jc_84, ↓k1, ↓k2, ct_s, ct_n, ↓bI_01, bI_eq0, bI_eq1, nI_10, nI_01, dec_f, dec_t, if_n, eq_self, true_or, or_true, if_true, if_false, reduceIte]
  exact hx0 M2 N2 hI2
theorem lw_26 (hx0 : LQ L xs Q (i + 6)) (hI : Inv M N) (hi : i + 6 ≤ L) (hL : L ≤ 384) : ax_W 1000 226 856 [.ref 0, .ref 20, .ref 84, .int (nI i)] [] 82 (hx (L, xs) M N) Q := by
  obtain ⟨v, M1, N1, M2, N2, g1, g2, hI2⟩ := (p26 hI : RPi 107 193 [.ref 20, .int (xs (i + 1)), ax_dm, ax_dm] [.ref 84, .int (xs (i + 1)), ax_dm, ax_dm, ax_dm] M N)
  have k1 : ∀ (n : Nat) (Q : Option Value → Nat → ax_H → Prop), ax_W 999 107 0 [.ref 20, .int (xs (i + 1)), ax_dm, ax_dm] [] n (hx (L, xs) M N) Q = Q (some (.int v)) n (hx (L, xs) M1 N1) := fun n Q => g1 (L, xs) 99 n Q
  have k2 : ∀ (n : Nat) (Q : Option Value → Nat → ax_H → Prop), ax_W 999 193 0 [.ref 84, .int (xs (i + 1)), ax_dm, ax_dm, ax_dm] [] n (hx (L, xs) M1 N1) Q = Q (some (.int v)) n (hx (L, xs) M2 N2) := fun n Q => g2 (L, xs) 99 n Q
  simp only [↓s226_856, ↓s226_857, ↓s226_858, ↓s226_859, ↓s226_860, ↓s226_861, ↓s226_862, ↓s226_865, ↓s226_866, ↓s226_867, ↓s226_868, ↓s226_869, ↓s226_870, ↓s226_871, ↓s226_874, ↓s226_1085, ↓s226_1088, nI_add, al_o0 (show i + 1 < L by omega) hL, jc_20, jc_84, ↓k1, ↓k2, ct_s, ct_n, ↓bI_01, bI_eq0, bI_eq1, nI_10, nI_01, dec_f, dec_t, if_n, eq_self, true_or, or_true, if_true, if_false, reduceIte]
  exact hx0 M2 N2 hI2
theorem lw_27 (hx0 : LQ L xs Q (i + 6)) (hI : Inv M N) (hi : i + 6 ≤ L) (hL : L ≤ 384) : ax_W 1000 226 879 [.ref 0, .ref 20, .ref 84, .int (nI i)] [] 82 (hx (L, xs) M N) Q := by
  obtain ⟨v, M1, N1, M2, N2, g1, g2, hI2⟩ := (p27 hI : RPi 108 195 [.ref 20, .int (xs (i + 1)), .int (xs (i + 2)), .int (xs (i + 3))] [.ref 84, .int (xs (i + 1)), .int (xs (i + 2)), .int (xs (i + 3)), ax_dm, ax_dm, ax_dm, ax_dm, ax_dm, ax_dm, ax_dm, ax_dm] M N)
  have k1 : ∀ (n : Nat) (Q : Option Value → Nat → ax_H → Prop), ax_W 999 108 0 [.ref 20, .int (xs (i + 1)), .int (xs (i + 2)), .int (xs (i + 3))] [] n (hx (L, xs) M N) Q = Q (some (.int v)) n (hx (L, xs) M1 N1) := fun n Q => g1 (L, xs) 99 n Q
  have k2 : ∀ (n : Nat) (Q : Option Value → Nat → ax_H → Prop), ax_W 999 195 0 [.ref 84, .int (xs (i + 1)), .int (xs (i + 2)), .int (xs (i + 3)), ax_dm, ax_dm, ax_dm, ax_dm, ax_dm, ax_dm, ax_dm, ax_dm] [] n (hx (L, xs) M1 N1) Q = Q (some (.int v)) n (hx (L, xs) M2 N2) := fun n Q => g2 (L, xs) 99 n Q
  simp only [↓s226_879, ↓s226_880, ↓s226_881, ↓s226_882, ↓s226_883, ↓s226_884, ↓s226_885, ↓s226_886, ↓s226_887, ↓s226_888, ↓s226_889, ↓s226_890, ↓s226_891, ↓s226_892, ↓s226_893, ↓s226_894, ↓s226_895, ↓s226_898, ↓s226_899, ↓s226_900, ↓s226_901, ↓s226_902, ↓s226_903, ↓s226_904, ↓s226_905, ↓s226_906, ↓s226_907, ↓s226_908, ↓s226_909, ↓s226_910, ↓s226_911, ↓s226_912, ↓s226_913, ↓s226_914, ↓s226_917, ↓s226_1085, ↓s226_1088, nI_add, al_o0 (show i + 1 < L by omega) hL, al_o0 (show i + 2 < L by omega) hL, al_o0 (show i + 3 < L by omega) hL, jc_20, jc_84, ↓k1, ↓k2, ct_s, ct_n, ↓bI_01, bI_eq0, bI_eq1, nI_10, nI_01, dec_f, dec_t, if_n, eq_self, true_or, or_true, if_true, if_false, reduceIte]
  exact hx0 M2 N2 hI2
theorem lw_28 (hx0 : LQ L xs Q (i + 6)) (hI : Inv M N) (hi : i + 6 ≤ L) (hL : L ≤ 384) : ax_W 1000 226 922 [.ref 0, .ref 20, .ref 84, .int (nI i)] [] 82 (hx (L, xs) M N) Q := by
  obtain ⟨v, M1, N1, M2, N2, g1, g2, hI2⟩ := (p28 hI : RPi 109 196 [.ref 20, .int (xs (i + 1)), .int (xs (i + 2)), ax_dm, ax_dm, ax_dm, ax_dm] [.ref 84, .int (xs (i + 1)), .int (xs (i + 2)), ax_dm, ax_dm, ax_dm, ax_dm, ax_dm, ax_dm, ax_dm, ax_dm] M N)
  have k1 : ∀ (n : Nat) (Q : Option Value → Nat → ax_H → Prop), ax_W 999 109 0 [.ref 20, .int (xs (i + 1)), .int (xs (i + 2)), ax_dm, ax_dm, ax_dm, ax_dm] [] n (hx (L, xs) M N) Q = Q (some (.int v)) n (hx (L, xs) M1 N1) := fun n Q => g1 (L, xs) 99 n Q
  have k2 : ∀ (n : Nat) (Q : Option Value → Nat → ax_H → Prop), ax_W 999 196 0 [.ref 84, .int (xs (i + 1)), .int (xs (i + 2)), ax_dm, ax_dm, ax_dm, ax_dm, ax_dm, ax_dm, ax_dm, ax_dm] [] n (hx (L, xs) M1 N1) Q = Q (some (.int v)) n (hx (L, xs) M2 N2) := fun n Q => g2 (L, xs) 99 n Q
  simp only [↓s226_922, ↓s226_923, ↓s226_924, ↓s226_925, ↓s226_926, ↓s226_927, ↓s226_928, ↓s226_929, ↓s226_930, ↓s226_931, ↓s226_932, ↓s226_933, ↓s226_936, ↓s226_937, ↓s226_938, ↓s226_939, ↓s226_940, ↓s226_941, ↓s226_942, ↓s226_943, ↓s226_944, ↓s226_945, ↓s226_946, ↓s226_947, ↓s226_950, ↓s226_1085, ↓s226_1088, nI_add, al_o0 (show i + 1 < L by omega) hL, al_o0 (show i + 2 < L by omega) hL, jc_20, jc_84, ↓k1, ↓k2, ct_s, ct_n, ↓bI_01, bI_eq0, bI_eq1, nI_10, nI_01, dec_f, dec_t, if_n, eq_self, true_or, or_true, if_true, if_false, reduceIte]
  exact hx0 M2 N2 hI2
theorem lw_29 (hx0 : LQ L xs Q (i + 6)) (hI : Inv M N) (hi : i + 6 ≤ L) (hL : L ≤ 384) : ax_W 1000 226 955 [.ref 0, .ref 20, .ref 84, .int (nI i)] [] 82 (hx (L, xs) M N) Q := by
  obtain ⟨v, M1, N1, M2, N2, g1, g2, hI2⟩ := (p29 hI : RPl 110 210 [.ref 20, .int (xs (i + 1))] [.ref 84, .int (xs (i + 1))] M N)
  have k1 : ∀ (n : Nat) (Q : Option Value → Nat → ax_H → Prop), ax_W 999 110 0 [.ref 20, .int (xs (i + 1))] [] n (hx (L, xs) M N) Q = Q (some (.long v)) n (hx (L, xs) M1 N1) := fun n Q => g1 (L, xs) 99 n Q
  have k2 : ∀ (n : Nat) (Q : Option Value → Nat → ax_H → Prop), ax_W 999 210 0 [.ref 84, .int (xs (i + 1))] [] n (hx (L, xs) M1 N1) Q = Q (some (.long v)) n (hx (L, xs) M2 N2) := fun n Q => g2 (L, xs) 99 n Q
  simp only [↓s226_955, ↓s226_956, ↓s226_957, ↓s226_958, ↓s226_959, ↓s226_960, ↓s226_961, ↓s226_964, ↓s226_965, ↓s226_966, ↓s226_967, ↓s226_968, ↓s226_969, ↓s226_970, ↓s226_973, ↓s226_974, ↓s226_1085, ↓s226_1088, nI_add, al_o0 (show i + 1 < L by omega) hL, jc_20, jc_84, ↓k1, ↓k2, lg_eq, ct_s, ct_n, ↓bI_01, bI_eq0, bI_eq1, nI_10, nI_01, dec_f, dec_t, if_n, eq_self, true_or, or_true, if_true, if_false, reduceIte]
  exact hx0 M2 N2 hI2
theorem lw_30 (hx0 : LQ L xs Q (i + 6)) (hI : Inv M N) (hi : i + 6 ≤ L) (hL : L ≤ 384) : ax_W 1000 226 979 [.ref 0, .ref 20, .ref 84, .int (nI i)] [] 82 (hx (L, xs) M N) Q := by
  obtain ⟨v, M1, N1, M2, N2, g1, g2, hI2⟩ := (p30 hI : RPi 111 211 [.ref 20, .int (xs (i + 1))] [.ref 84, .int (xs (i + 1)), ax_dm] M N)
  have k1 : ∀ (n : Nat) (Q : Option Value → Nat → ax_H → Prop), ax_W 999 111 0 [.ref 20, .int (xs (i + 1))] [] n (hx (L, xs) M N) Q = Q (some (.int v)) n (hx (L, xs) M1 N1) := fun n Q => g1 (L, xs) 99 n Q
  have k2 : ∀ (n : Nat) (Q : Option Value → Nat → ax_H → Prop), ax_W 999 211 0 [.ref 84, .int (xs (i + 1)), ax_dm] [] n (hx (L, xs) M1 N1) Q = Q (some (.int v)) n (hx (L, xs) M2 N2) := fun n Q => g2 (L, xs) 99 n Q
  simp only [↓s226_979, ↓s226_980, ↓s226_981, ↓s226_982, ↓s226_983, ↓s226_984, ↓s226_985, ↓s226_988, ↓s226_989, ↓s226_990, ↓s226_991, ↓s226_992, ↓s226_993, ↓s226_994, ↓s226_997, ↓s226_1085, ↓s226_1088, nI_add, al_o0 (show i + 1 < L by omega) hL, jc_20, jc_84, ↓k1, ↓k2, ct_s, ct_n, ↓bI_01, bI_eq0, bI_eq1, nI_10, nI_01, dec_f, dec_t, if_n, eq_self, true_or, or_true, if_true, if_false, reduceIte]
  exact hx0 M2 N2 hI2
theorem lw_31 (hx0 : LQ L xs Q (i + 6)) (hI : Inv M N) (hi : i + 6 ≤ L) (hL : L ≤ 384) : ax_W 1000 226 1002 [.ref 0, .ref 20, .ref 84, .int (nI i)] [] 82 (hx (L, xs) M N) Q := by
  obtain ⟨v, M1, N1, M2, N2, g1, g2, hI2⟩ := (p31 hI : RPi 112 212 [.ref 20, .int (xs (i + 1))] [.ref 84, .int (xs (i + 1)), ax_dm] M N)
  have k1 : ∀ (n : Nat) (Q : Option Value → Nat → ax_H → Prop), ax_W 999 112 0 [.ref 20, .int (xs (i + 1))] [] n (hx (L, xs) M N) Q = Q (some (.int v)) n (hx (L, xs) M1 N1) := fun n Q => g1 (L, xs) 99 n Q
  have k2 : ∀ (n : Nat) (Q : Option Value → Nat → ax_H → Prop), ax_W 999 212 0 [.ref 84, .int (xs (i + 1)), ax_dm] [] n (hx (L, xs) M1 N1) Q = Q (some (.int v)) n (hx (L, xs) M2 N2) := fun n Q => g2 (L, xs) 99 n Q
  simp only [↓s226_1002, ↓s226_1003, ↓s226_1004, ↓s226_1005, ↓s226_1006, ↓s226_1007, ↓s226_1008, ↓s226_1011, ↓s226_1012, ↓s226_1013, ↓s226_1014, ↓s226_1015, ↓s226_1016, ↓s226_1017, ↓s226_1020, ↓s226_1085, ↓s226_1088, nI_add, al_o0 (show i + 1 < L by omega) hL, jc_20, jc_84, ↓k1, ↓k2, ct_s, ct_n, ↓bI_01, bI_eq0, bI_eq1, nI_10, nI_01, dec_f, dec_t, if_n, eq_self, true_or, or_true, if_true, if_false, reduceIte]
  exact hx0 M2 N2 hI2
theorem lw_32 (hx0 : LQ L xs Q (i + 6)) (hI : Inv M N) (hi : i + 6 ≤ L) (hL : L ≤ 384) : ax_W 1000 226 1025 [.ref 0, .ref 20, .ref 84, .int (nI i)] [] 82 (hx (L, xs) M N) Q := by
  obtain ⟨v, M1, N1, M2, N2, g1, g2, hI2⟩ := (p32 hI : RPi 113 213 [.ref 20, .int (xs (i + 1))] [.ref 84, .int (xs (i + 1))] M N)
  have k1 : ∀ (n : Nat) (Q : Option Value → Nat → ax_H → Prop), ax_W 999 113 0 [.ref 20, .int (xs (i + 1))] [] n (hx (L, xs) M N) Q = Q (some (.int v)) n (hx (L, xs) M1 N1) := fun n Q => g1 (L, xs) 99 n Q
  have k2 : ∀ (n : Nat) (Q : Option Value → Nat → ax_H → Prop), ax_W 999 213 0 [.ref 84, .int (xs (i + 1))] [] n (hx (L, xs) M1 N1) Q = Q (some (.int v)) n (hx (L, xs) M2 N2) := fun n Q => g2 (L, xs) 99 n Q
  simp only [↓s226_1025, ↓s226_1026, ↓s226_1027, ↓s226_1028, ↓s226_1029, ↓s226_1030, ↓s226_1031, ↓s226_1034, ↓s226_1035, ↓s226_1036, ↓s226_1037, ↓s226_1038, ↓s226_1039, ↓s226_1040, ↓s226_1043, ↓s226_1085, ↓s226_1088, nI_add, al_o0 (show i + 1 < L by omega) hL, jc_20, jc_84, ↓k1, ↓k2, ct_s, ct_n, ↓bI_01, bI_eq0, bI_eq1, nI_10, nI_01, dec_f, dec_t, if_n, eq_self, true_or, or_true, if_true, if_false, reduceIte]
  exact hx0 M2 N2 hI2
theorem lw_33 (hx0 : LQ L xs Q (i + 6)) (hI : Inv M N) (hi : i + 6 ≤ L) (hL : L ≤ 384) : ax_W 1000 226 1048 [.ref 0, .ref 20, .ref 84, .int (nI i)] [] 82 (hx (L, xs) M N) Q := by
  obtain ⟨v, M1, N1, M2, N2, g1, g2, hI2⟩ := (p33 hI : RPi 114 215 [.ref 20, .int (xs (i + 1))] [.ref 84, .int (xs (i + 1))] M N)
  have k1 : ∀ (n : Nat) (Q : Option Value → Nat → ax_H → Prop), ax_W 999 114 0 [.ref 20, .int (xs (i + 1))] [] n (hx (L, xs) M N) Q = Q (some (.int v)) n (hx (L, xs) M1 N1) := fun n Q => g1 (L, xs) 99 n Q
  have k2 : ∀ (n : Nat) (Q : Option Value → Nat → ax_H → Prop), ax_W 999 215 0 [.ref 84, .int (xs (i + 1))] [] n (hx (L, xs) M1 N1) Q = Q (some (.int v)) n (hx (L, xs) M2 N2) := fun n Q => g2 (L, xs) 99 n Q
  simp only [↓s226_1048, ↓s226_1049, ↓s226_1050, ↓s226_1051, ↓s226_1052, ↓s226_1053, ↓s226_1054, ↓s226_1057, ↓s226_1058, ↓s226_1059, ↓s226_1060, ↓s226_1061, ↓s226_1062, ↓s226_1063, ↓s226_1066, ↓s226_1085, ↓s226_1088, nI_add, al_o0 (show i + 1 < L by omega) hL, jc_20, jc_84, ↓k1, ↓k2, ct_s, ct_n, ↓bI_01, bI_eq0, bI_eq1, nI_10, nI_01, dec_f, dec_t, if_n, eq_self, true_or, or_true, if_true, if_false, reduceIte]
  exact hx0 M2 N2 hI2
theorem lw_34 (hx0 : LQ L xs Q (i + 6)) (hI : Inv M N) (hi : i + 6 ≤ L) (hL : L ≤ 384) : ax_W 1000 226 1071 [.ref 0, .ref 20, .ref 84, .int (nI i)] [] 82 (hx (L, xs) M N) Q := by
  obtain ⟨v, M1, N1, M2, N2, g1, g2, hI2⟩ := (p34 hI : RPl 115 217 [.ref 20, ax_dm, ax_dm, ax_dm] [.ref 84, ax_dm, ax_dm, ax_dm] M N)
  have k1 : ∀ (n : Nat) (Q : Option Value → Nat → ax_H → Prop), ax_W 999 115 0 [.ref 20, ax_dm, ax_dm, ax_dm] [] n (hx (L, xs) M N) Q = Q (some (.long v)) n (hx (L, xs) M1 N1) := fun n Q => g1 (L, xs) 99 n Q
  have k2 : ∀ (n : Nat) (Q : Option Value → Nat → ax_H → Prop), ax_W 999 217 0 [.ref 84, ax_dm, ax_dm, ax_dm] [] n (hx (L, xs) M1 N1) Q = Q (some (.long v)) n (hx (L, xs) M2 N2) := fun n Q => g2 (L, xs) 99 n Q
  simp only [↓s226_1071, ↓s226_1072, ↓s226_1075, ↓s226_1076, ↓s226_1079, ↓s226_1080, ↓s226_1085, ↓s226_1088, nI_add, jc_20, jc_84, ↓k1, ↓k2, lg_eq, ct_s, ct_n, ↓bI_01, bI_eq0, bI_eq1, nI_10, nI_01, dec_f, dec_t, if_n, eq_self, true_or, or_true, if_true, if_false, reduceIte]
  exact hx0 M2 N2 hI2
theorem lw_dec {x : Int32} (hd : LQ L xs Q (i + 6)) (hI : Inv M N) (hi : i + 6 ≤ L) (hL : L ≤ 384) (k : Nat) (hk : k < 64) : ax_W 1000 226 33 [.ref 0, .ref 20, .ref 84, .int (nI i)] [.int (nI k)] 82 (hx (L, xs) M N) Q := by
  rcases Nat.lt_or_ge k 35 with h | h
  · rcases (show k = 0 ∨ k = 1 ∨ k = 2 ∨ k = 3 ∨ k = 4 ∨ k = 5 ∨ k = 6 ∨ k = 7 ∨ k = 8 ∨ k = 9 ∨ k = 10 ∨ k = 11 ∨ k = 12 ∨ k = 13 ∨ k = 14 ∨ k = 15 ∨ k = 16 ∨ k = 17 ∨ k = 18 ∨ k = 19 ∨ k = 20 ∨ k = 21 ∨ k = 22 ∨ k = 23 ∨ k = 24 ∨ k = 25 ∨ k = 26 ∨ k = 27 ∨ k = 28 ∨ k = 29 ∨ k = 30 ∨ k = 31 ∨ k = 32 ∨ k = 33 ∨ k = 34 by omega) with rfl | rfl | rfl | rfl | rfl | rfl | rfl | rfl | rfl | rfl | rfl | rfl | rfl | rfl | rfl | rfl | rfl | rfl | rfl | rfl | rfl | rfl | rfl | rfl | rfl | rfl | rfl | rfl | rfl | rfl | rfl | rfl | rfl | rfl | rfl
    · rw [s226_33_0]; exact lw_0 hd hI hi hL
    · rw [s226_33_1]; exact lw_1 hd hI hi hL
    · rw [s226_33_2]; exact lw_2 hd hI hi hL
    · rw [s226_33_3]; exact lw_3 hd hI hi hL
    · rw [s226_33_4]; exact lw_4 hd hI hi hL
    · rw [s226_33_5]; exact lw_5 hd hI hi hL
    · rw [s226_33_6]; exact lw_6 hd hI hi hL
    · rw [s226_33_7]; exact lw_7 hd hI hi hL
    · rw [s226_33_8]; exact lw_8 hd hI hi hL
    · rw [s226_33_9]; exact lw_9 hd hI hi hL
    · rw [s226_33_10]; exact lw_10 hd hI hi hL
    · rw [s226_33_11]; exact lw_11 hd hI hi hL
    · rw [s226_33_12]; exact lw_12 hd hI hi hL
    · rw [s226_33_13]; exact lw_13 hd hI hi hL
    · rw [s226_33_14]; exact lw_14 hd hI hi hL
    · rw [s226_33_15]; exact lw_15 hd hI hi hL
    · rw [s226_33_16]; exact lw_16 hd hI hi hL
    · rw [s226_33_17]; exact lw_17 hd hI hi hL
    · rw [s226_33_18]; exact lw_18 hd hI hi hL
    · rw [s226_33_19]; exact lw_19 hd hI hi hL
    · rw [s226_33_20]; exact lw_20 hd hI hi hL
    · rw [s226_33_21]; exact lw_21 hd hI hi hL
    · rw [s226_33_22]; exact lw_22 hd hI hi hL
    · rw [s226_33_23]; exact lw_23 hd hI hi hL
    · rw [s226_33_24]; exact lw_24 hd hI hi hL
    · rw [s226_33_25]; exact lw_25 hd hI hi hL
    · rw [s226_33_26]; exact lw_26 hd hI hi hL
    · rw [s226_33_27]; exact lw_27 hd hI hi hL
    · rw [s226_33_28]; exact lw_28 hd hI hi hL
    · rw [s226_33_29]; exact lw_29 hd hI hi hL
    · rw [s226_33_30]; exact lw_30 hd hI hi hL
    · rw [s226_33_31]; exact lw_31 hd hI hi hL
    · rw [s226_33_32]; exact lw_32 hd hI hi hL
    · rw [s226_33_33]; exact lw_33 hd hI hi hL
    · rw [s226_33_34]; exact lw_34 hd hI hi hL
  · rw [s226_33_d (Or.inr (by rw [nI_toInt (by omega)]; omega))]
    simp only [↓s226_1085, ↓s226_1088, nI_add, ct_s, ct_n, ↓bI_01, bI_eq0, bI_eq1, nI_10, nI_01, dec_f, dec_t, if_n, eq_self, true_or, or_true, if_true, if_false, reduceIte]
    exact hd M N hI
theorem lw_loop (hL : L ≤ 384) (hQ : ∀ h : ax_H, Q (some (.int (nI 1))) 82 h) : ∀ t i, L ≤ i + t → i ≤ 1000 → LQ L xs Q i := by
  intro t
  induction t with
  | zero =>
    intro i ht h1 M N hI
    simp only [↓s226_18, ↓s226_19, ↓s226_20, ↓s226_21, ↓s226_23, an_o0, ct_s, ct_n, ↓bI_01, bI_eq0, bI_eq1, nI_10, nI_01, dec_f, dec_t, if_n, eq_self, true_or, or_true, if_true, if_false, reduceIte]
    rw [s226_24, if_pos (by rw [iI_nat L, iI_nat 6, iI_sub, iI_nat i, iI_lt (by omega) (by omega) (by omega) (by omega)]; omega)]
    simp only [↓s226_1091, ↓s226_1092, ct_s, ct_n, ↓bI_01, bI_eq0, bI_eq1, nI_10, nI_01, dec_f, dec_t, if_n, eq_self, true_or, or_true, if_true, if_false, reduceIte]
    exact hQ _
  | succ t ih =>
    intro i ht h1 M N hI
    simp only [↓s226_18, ↓s226_19, ↓s226_20, ↓s226_21, ↓s226_23, an_o0, ct_s, ct_n, ↓bI_01, bI_eq0, bI_eq1, nI_10, nI_01, dec_f, dec_t, if_n, eq_self, true_or, or_true, if_true, if_false, reduceIte]
    by_cases hi : i + 6 ≤ L
    · rw [s226_24, if_neg (by rw [iI_nat L, iI_nat 6, iI_sub, iI_nat i, iI_lt (by omega) (by omega) (by omega) (by omega)]; omega)]
      obtain ⟨k, k1, k2⟩ := pk_andE (xs i) (m := nI 63) 6 (by decide)
      simp only [↓s226_27, ↓s226_28, ↓s226_29, ↓s226_30, ↓s226_32, al_o0 (show i < L by omega) hL, k2, ct_s, ct_n, ↓bI_01, bI_eq0, bI_eq1, nI_10, nI_01, dec_f, dec_t, if_n, eq_self, true_or, or_true, if_true, if_false, reduceIte]
      exact lw_dec (x := xs i) (ih (i + 6) (by omega) (by omega)) hI hi hL k k1
    · rw [s226_24, if_pos (by rw [iI_nat L, iI_nat 6, iI_sub, iI_nat i, iI_lt (by omega) (by omega) (by omega) (by omega)]; omega)]
      simp only [↓s226_1091, ↓s226_1092, ct_s, ct_n, ↓bI_01, bI_eq0, bI_eq1, nI_10, nI_01, dec_f, dec_t, if_n, eq_self, true_or, or_true, if_true, if_false, reduceIte]
      exact hQ _
end Law
