/-! the model: rows of ta: 0 st, 1 lanes, 2 sizes, 3 items, 4 moved, 5 tape, 6 read, 7 acts, 8 aside, 9 isKept, 10 kept, 11 trace, 12 status, isThere, bytes, latest, place, token, value, begins, wrong, actMany, traced -/
abbrev YO (G : mj_G) (x : Nat → Int32) : mj_E := mj_ob 5 [.ref (G.1 + 221), .ref (G.1 + 222), .ref (G.1 + 223), .int (x 0), .int (x 1), .ref (G.1 + 224), .ref (G.1 + 225), .ref (G.1 + 226), .int (x 2), .int (x 3), .int (x 4), .int (x 5), .int (x 6), .int (x 7), .int (x 8), .ref (G.1 + 227), .ref (G.1 + 228), .int (x 9), .ref (G.1 + 229), .ref (G.1 + 230), .ref (G.1 + 231), .ref (G.1 + 232), .int (x 10)]
def YS (G : mj_G) (h : mj_H) (τ : Nat → Nat → Int32) : Prop := h.2 220 = YO G (τ 12) ∧ h.2 221 = mj_ar 0 8 (τ 1) ∧ h.2 222 = mj_ar 0 8 (τ 2) ∧ h.2 223 = mj_ar 0 320 (τ 3) ∧ h.2 224 = mj_ar 0 48 (τ 0) ∧ h.2 225 = mj_ar 0 40 (τ 4) ∧ h.2 226 = mj_ar 0 120 (τ 5) ∧ h.2 227 = mj_ar 0 48 (τ 6) ∧ h.2 228 = mj_ar 0 1152 (τ 7) ∧ h.2 229 = mj_ar 0 48 (τ 8) ∧ h.2 230 = mj_ar 1 2 (τ 9) ∧ h.2 231 = mj_ar 0 96 (τ 10) ∧ h.2 232 = mj_ar 0 16 (τ 11)
theorem YS_fr {G : mj_G} {p w : Nat} {h h' : mj_H} {τ : Nat → Nat → Int32} (a : mj_fr p w h h') (hq : 233 ≤ p ∨ p + w ≤ 220) (hY : YS G h τ) : YS G h' τ := by
  obtain ⟨y0, y1, y2, y3, y4, y5, y6, y7, y8, y9, y10, y11, y12⟩ := hY
  exact ⟨fr_get a (by omega) y0, fr_get a (by omega) y1, fr_get a (by omega) y2, fr_get a (by omega) y3, fr_get a (by omega) y4, fr_get a (by omega) y5, fr_get a (by omega) y6, fr_get a (by omega) y7, fr_get a (by omega) y8, fr_get a (by omega) y9, fr_get a (by omega) y10, fr_get a (by omega) y11, fr_get a (by omega) y12⟩
section YPW
variable {G : mj_G} {M : mj_M} {d kc ks pc : Nat} {ls : List (Option Value)} {st : List Value} {h : mj_H} {uc us : Nat} {Q : Option Value → mj_H → Prop}
theorem YA_1 {τ : Nat → Nat → Int32} {f : Nat → Int32} (hY : YS G h τ) (k : ∀ h', YS G h' (u2 τ 1 f) → mj_fr 220 13 h h' → mj_wp G M d kc ks pc ls st h' uc us Q) : mj_wp G M d kc ks pc ls st (mj_up h 221 (mj_ar 0 8 f)) uc us Q := by
  obtain ⟨y0, y1, y2, y3, y4, y5, y6, y7, y8, y9, y10, y11, y12⟩ := hY
  exact k _ ⟨mj_un (by omega) y0, mj_ue, mj_un (by omega) y2, mj_un (by omega) y3, mj_un (by omega) y4, mj_un (by omega) y5, mj_un (by omega) y6, mj_un (by omega) y7, mj_un (by omega) y8, mj_un (by omega) y9, mj_un (by omega) y10, mj_un (by omega) y11, mj_un (by omega) y12⟩ (fr_up (by omega) (by omega))
theorem YA_2 {τ : Nat → Nat → Int32} {f : Nat → Int32} (hY : YS G h τ) (k : ∀ h', YS G h' (u2 τ 2 f) → mj_fr 220 13 h h' → mj_wp G M d kc ks pc ls st h' uc us Q) : mj_wp G M d kc ks pc ls st (mj_up h 222 (mj_ar 0 8 f)) uc us Q := by
  obtain ⟨y0, y1, y2, y3, y4, y5, y6, y7, y8, y9, y10, y11, y12⟩ := hY
  exact k _ ⟨mj_un (by omega) y0, mj_un (by omega) y1, mj_ue, mj_un (by omega) y3, mj_un (by omega) y4, mj_un (by omega) y5, mj_un (by omega) y6, mj_un (by omega) y7, mj_un (by omega) y8, mj_un (by omega) y9, mj_un (by omega) y10, mj_un (by omega) y11, mj_un (by omega) y12⟩ (fr_up (by omega) (by omega))
theorem YA_3 {τ : Nat → Nat → Int32} {f : Nat → Int32} (hY : YS G h τ) (k : ∀ h', YS G h' (u2 τ 3 f) → mj_fr 220 13 h h' → mj_wp G M d kc ks pc ls st h' uc us Q) : mj_wp G M d kc ks pc ls st (mj_up h 223 (mj_ar 0 320 f)) uc us Q := by
  obtain ⟨y0, y1, y2, y3, y4, y5, y6, y7, y8, y9, y10, y11, y12⟩ := hY
  exact k _ ⟨mj_un (by omega) y0, mj_un (by omega) y1, mj_un (by omega) y2, mj_ue, mj_un (by omega) y4, mj_un (by omega) y5, mj_un (by omega) y6, mj_un (by omega) y7, mj_un (by omega) y8, mj_un (by omega) y9, mj_un (by omega) y10, mj_un (by omega) y11, mj_un (by omega) y12⟩ (fr_up (by omega) (by omega))
theorem YA_0 {τ : Nat → Nat → Int32} {f : Nat → Int32} (hY : YS G h τ) (k : ∀ h', YS G h' (u2 τ 0 f) → mj_fr 220 13 h h' → mj_wp G M d kc ks pc ls st h' uc us Q) : mj_wp G M d kc ks pc ls st (mj_up h 224 (mj_ar 0 48 f)) uc us Q := by
  obtain ⟨y0, y1, y2, y3, y4, y5, y6, y7, y8, y9, y10, y11, y12⟩ := hY
  exact k _ ⟨mj_un (by omega) y0, mj_un (by omega) y1, mj_un (by omega) y2, mj_un (by omega) y3, mj_ue, mj_un (by omega) y5, mj_un (by omega) y6, mj_un (by omega) y7, mj_un (by omega) y8, mj_un (by omega) y9, mj_un (by omega) y10, mj_un (by omega) y11, mj_un (by omega) y12⟩ (fr_up (by omega) (by omega))
theorem YA_4 {τ : Nat → Nat → Int32} {f : Nat → Int32} (hY : YS G h τ) (k : ∀ h', YS G h' (u2 τ 4 f) → mj_fr 220 13 h h' → mj_wp G M d kc ks pc ls st h' uc us Q) : mj_wp G M d kc ks pc ls st (mj_up h 225 (mj_ar 0 40 f)) uc us Q := by
  obtain ⟨y0, y1, y2, y3, y4, y5, y6, y7, y8, y9, y10, y11, y12⟩ := hY
  exact k _ ⟨mj_un (by omega) y0, mj_un (by omega) y1, mj_un (by omega) y2, mj_un (by omega) y3, mj_un (by omega) y4, mj_ue, mj_un (by omega) y6, mj_un (by omega) y7, mj_un (by omega) y8, mj_un (by omega) y9, mj_un (by omega) y10, mj_un (by omega) y11, mj_un (by omega) y12⟩ (fr_up (by omega) (by omega))
theorem YA_5 {τ : Nat → Nat → Int32} {f : Nat → Int32} (hY : YS G h τ) (k : ∀ h', YS G h' (u2 τ 5 f) → mj_fr 220 13 h h' → mj_wp G M d kc ks pc ls st h' uc us Q) : mj_wp G M d kc ks pc ls st (mj_up h 226 (mj_ar 0 120 f)) uc us Q := by
  obtain ⟨y0, y1, y2, y3, y4, y5, y6, y7, y8, y9, y10, y11, y12⟩ := hY
  exact k _ ⟨mj_un (by omega) y0, mj_un (by omega) y1, mj_un (by omega) y2, mj_un (by omega) y3, mj_un (by omega) y4, mj_un (by omega) y5, mj_ue, mj_un (by omega) y7, mj_un (by omega) y8, mj_un (by omega) y9, mj_un (by omega) y10, mj_un (by omega) y11, mj_un (by omega) y12⟩ (fr_up (by omega) (by omega))
theorem YA_6 {τ : Nat → Nat → Int32} {f : Nat → Int32} (hY : YS G h τ) (k : ∀ h', YS G h' (u2 τ 6 f) → mj_fr 220 13 h h' → mj_wp G M d kc ks pc ls st h' uc us Q) : mj_wp G M d kc ks pc ls st (mj_up h 227 (mj_ar 0 48 f)) uc us Q := by
  obtain ⟨y0, y1, y2, y3, y4, y5, y6, y7, y8, y9, y10, y11, y12⟩ := hY
  exact k _ ⟨mj_un (by omega) y0, mj_un (by omega) y1, mj_un (by omega) y2, mj_un (by omega) y3, mj_un (by omega) y4, mj_un (by omega) y5, mj_un (by omega) y6, mj_ue, mj_un (by omega) y8, mj_un (by omega) y9, mj_un (by omega) y10, mj_un (by omega) y11, mj_un (by omega) y12⟩ (fr_up (by omega) (by omega))
theorem YA_7 {τ : Nat → Nat → Int32} {f : Nat → Int32} (hY : YS G h τ) (k : ∀ h', YS G h' (u2 τ 7 f) → mj_fr 220 13 h h' → mj_wp G M d kc ks pc ls st h' uc us Q) : mj_wp G M d kc ks pc ls st (mj_up h 228 (mj_ar 0 1152 f)) uc us Q := by
  obtain ⟨y0, y1, y2, y3, y4, y5, y6, y7, y8, y9, y10, y11, y12⟩ := hY
  exact k _ ⟨mj_un (by omega) y0, mj_un (by omega) y1, mj_un (by omega) y2, mj_un (by omega) y3, mj_un (by omega) y4, mj_un (by omega) y5, mj_un (by omega) y6, mj_un (by omega) y7, mj_ue, mj_un (by omega) y9, mj_un (by omega) y10, mj_un (by omega) y11, mj_un (by omega) y12⟩ (fr_up (by omega) (by omega))
theorem YA_8 {τ : Nat → Nat → Int32} {f : Nat → Int32} (hY : YS G h τ) (k : ∀ h', YS G h' (u2 τ 8 f) → mj_fr 220 13 h h' → mj_wp G M d kc ks pc ls st h' uc us Q) : mj_wp G M d kc ks pc ls st (mj_up h 229 (mj_ar 0 48 f)) uc us Q := by
  obtain ⟨y0, y1, y2, y3, y4, y5, y6, y7, y8, y9, y10, y11, y12⟩ := hY
  exact k _ ⟨mj_un (by omega) y0, mj_un (by omega) y1, mj_un (by omega) y2, mj_un (by omega) y3, mj_un (by omega) y4, mj_un (by omega) y5, mj_un (by omega) y6, mj_un (by omega) y7, mj_un (by omega) y8, mj_ue, mj_un (by omega) y10, mj_un (by omega) y11, mj_un (by omega) y12⟩ (fr_up (by omega) (by omega))
theorem YA_9 {τ : Nat → Nat → Int32} {f : Nat → Int32} (hY : YS G h τ) (k : ∀ h', YS G h' (u2 τ 9 f) → mj_fr 220 13 h h' → mj_wp G M d kc ks pc ls st h' uc us Q) : mj_wp G M d kc ks pc ls st (mj_up h 230 (mj_ar 1 2 f)) uc us Q := by
  obtain ⟨y0, y1, y2, y3, y4, y5, y6, y7, y8, y9, y10, y11, y12⟩ := hY
  exact k _ ⟨mj_un (by omega) y0, mj_un (by omega) y1, mj_un (by omega) y2, mj_un (by omega) y3, mj_un (by omega) y4, mj_un (by omega) y5, mj_un (by omega) y6, mj_un (by omega) y7, mj_un (by omega) y8, mj_un (by omega) y9, mj_ue, mj_un (by omega) y11, mj_un (by omega) y12⟩ (fr_up (by omega) (by omega))
theorem YA_10 {τ : Nat → Nat → Int32} {f : Nat → Int32} (hY : YS G h τ) (k : ∀ h', YS G h' (u2 τ 10 f) → mj_fr 220 13 h h' → mj_wp G M d kc ks pc ls st h' uc us Q) : mj_wp G M d kc ks pc ls st (mj_up h 231 (mj_ar 0 96 f)) uc us Q := by
  obtain ⟨y0, y1, y2, y3, y4, y5, y6, y7, y8, y9, y10, y11, y12⟩ := hY
  exact k _ ⟨mj_un (by omega) y0, mj_un (by omega) y1, mj_un (by omega) y2, mj_un (by omega) y3, mj_un (by omega) y4, mj_un (by omega) y5, mj_un (by omega) y6, mj_un (by omega) y7, mj_un (by omega) y8, mj_un (by omega) y9, mj_un (by omega) y10, mj_ue, mj_un (by omega) y12⟩ (fr_up (by omega) (by omega))
theorem YA_11 {τ : Nat → Nat → Int32} {f : Nat → Int32} (hY : YS G h τ) (k : ∀ h', YS G h' (u2 τ 11 f) → mj_fr 220 13 h h' → mj_wp G M d kc ks pc ls st h' uc us Q) : mj_wp G M d kc ks pc ls st (mj_up h 232 (mj_ar 0 16 f)) uc us Q := by
  obtain ⟨y0, y1, y2, y3, y4, y5, y6, y7, y8, y9, y10, y11, y12⟩ := hY
  exact k _ ⟨mj_un (by omega) y0, mj_un (by omega) y1, mj_un (by omega) y2, mj_un (by omega) y3, mj_un (by omega) y4, mj_un (by omega) y5, mj_un (by omega) y6, mj_un (by omega) y7, mj_un (by omega) y8, mj_un (by omega) y9, mj_un (by omega) y10, mj_un (by omega) y11, mj_ue⟩ (fr_up (by omega) (by omega))
theorem YF_0 {τ : Nat → Nat → Int32} {y : Int32} (hY : YS G h τ) (k : ∀ h', YS G h' (u2 τ 12 (upd (τ 12) 0 y)) → mj_fr 220 13 h h' → mj_wp G M d kc ks pc ls st h' uc us Q) : mj_wp G M d kc ks pc ls st (mj_up h 220 (mj_ob 5 [.ref (G.1 + 221), .ref (G.1 + 222), .ref (G.1 + 223), .int y, .int (τ 12 1), .ref (G.1 + 224), .ref (G.1 + 225), .ref (G.1 + 226), .int (τ 12 2), .int (τ 12 3), .int (τ 12 4), .int (τ 12 5), .int (τ 12 6), .int (τ 12 7), .int (τ 12 8), .ref (G.1 + 227), .ref (G.1 + 228), .int (τ 12 9), .ref (G.1 + 229), .ref (G.1 + 230), .ref (G.1 + 231), .ref (G.1 + 232), .int (τ 12 10)])) uc us Q := by
  obtain ⟨y0, y1, y2, y3, y4, y5, y6, y7, y8, y9, y10, y11, y12⟩ := hY
  exact k _ ⟨mj_ue, mj_un (by omega) y1, mj_un (by omega) y2, mj_un (by omega) y3, mj_un (by omega) y4, mj_un (by omega) y5, mj_un (by omega) y6, mj_un (by omega) y7, mj_un (by omega) y8, mj_un (by omega) y9, mj_un (by omega) y10, mj_un (by omega) y11, mj_un (by omega) y12⟩ (fr_up (by omega) (by omega))
theorem YF_1 {τ : Nat → Nat → Int32} {y : Int32} (hY : YS G h τ) (k : ∀ h', YS G h' (u2 τ 12 (upd (τ 12) 1 y)) → mj_fr 220 13 h h' → mj_wp G M d kc ks pc ls st h' uc us Q) : mj_wp G M d kc ks pc ls st (mj_up h 220 (mj_ob 5 [.ref (G.1 + 221), .ref (G.1 + 222), .ref (G.1 + 223), .int (τ 12 0), .int y, .ref (G.1 + 224), .ref (G.1 + 225), .ref (G.1 + 226), .int (τ 12 2), .int (τ 12 3), .int (τ 12 4), .int (τ 12 5), .int (τ 12 6), .int (τ 12 7), .int (τ 12 8), .ref (G.1 + 227), .ref (G.1 + 228), .int (τ 12 9), .ref (G.1 + 229), .ref (G.1 + 230), .ref (G.1 + 231), .ref (G.1 + 232), .int (τ 12 10)])) uc us Q := by
  obtain ⟨y0, y1, y2, y3, y4, y5, y6, y7, y8, y9, y10, y11, y12⟩ := hY
  exact k _ ⟨mj_ue, mj_un (by omega) y1, mj_un (by omega) y2, mj_un (by omega) y3, mj_un (by omega) y4, mj_un (by omega) y5, mj_un (by omega) y6, mj_un (by omega) y7, mj_un (by omega) y8, mj_un (by omega) y9, mj_un (by omega) y10, mj_un (by omega) y11, mj_un (by omega) y12⟩ (fr_up (by omega) (by omega))
theorem YF_2 {τ : Nat → Nat → Int32} {y : Int32} (hY : YS G h τ) (k : ∀ h', YS G h' (u2 τ 12 (upd (τ 12) 2 y)) → mj_fr 220 13 h h' → mj_wp G M d kc ks pc ls st h' uc us Q) : mj_wp G M d kc ks pc ls st (mj_up h 220 (mj_ob 5 [.ref (G.1 + 221), .ref (G.1 + 222), .ref (G.1 + 223), .int (τ 12 0), .int (τ 12 1), .ref (G.1 + 224), .ref (G.1 + 225), .ref (G.1 + 226), .int y, .int (τ 12 3), .int (τ 12 4), .int (τ 12 5), .int (τ 12 6), .int (τ 12 7), .int (τ 12 8), .ref (G.1 + 227), .ref (G.1 + 228), .int (τ 12 9), .ref (G.1 + 229), .ref (G.1 + 230), .ref (G.1 + 231), .ref (G.1 + 232), .int (τ 12 10)])) uc us Q := by
  obtain ⟨y0, y1, y2, y3, y4, y5, y6, y7, y8, y9, y10, y11, y12⟩ := hY
  exact k _ ⟨mj_ue, mj_un (by omega) y1, mj_un (by omega) y2, mj_un (by omega) y3, mj_un (by omega) y4, mj_un (by omega) y5, mj_un (by omega) y6, mj_un (by omega) y7, mj_un (by omega) y8, mj_un (by omega) y9, mj_un (by omega) y10, mj_un (by omega) y11, mj_un (by omega) y12⟩ (fr_up (by omega) (by omega))
theorem YF_3 {τ : Nat → Nat → Int32} {y : Int32} (hY : YS G h τ) (k : ∀ h', YS G h' (u2 τ 12 (upd (τ 12) 3 y)) → mj_fr 220 13 h h' → mj_wp G M d kc ks pc ls st h' uc us Q) : mj_wp G M d kc ks pc ls st (mj_up h 220 (mj_ob 5 [.ref (G.1 + 221), .ref (G.1 + 222), .ref (G.1 + 223), .int (τ 12 0), .int (τ 12 1), .ref (G.1 + 224), .ref (G.1 + 225), .ref (G.1 + 226), .int (τ 12 2), .int y, .int (τ 12 4), .int (τ 12 5), .int (τ 12 6), .int (τ 12 7), .int (τ 12 8), .ref (G.1 + 227), .ref (G.1 + 228), .int (τ 12 9), .ref (G.1 + 229), .ref (G.1 + 230), .ref (G.1 + 231), .ref (G.1 + 232), .int (τ 12 10)])) uc us Q := by
  obtain ⟨y0, y1, y2, y3, y4, y5, y6, y7, y8, y9, y10, y11, y12⟩ := hY
  exact k _ ⟨mj_ue, mj_un (by omega) y1, mj_un (by omega) y2, mj_un (by omega) y3, mj_un (by omega) y4, mj_un (by omega) y5, mj_un (by omega) y6, mj_un (by omega) y7, mj_un (by omega) y8, mj_un (by omega) y9, mj_un (by omega) y10, mj_un (by omega) y11, mj_un (by omega) y12⟩ (fr_up (by omega) (by omega))
theorem YF_4 {τ : Nat → Nat → Int32} {y : Int32} (hY : YS G h τ) (k : ∀ h', YS G h' (u2 τ 12 (upd (τ 12) 4 y)) → mj_fr 220 13 h h' → mj_wp G M d kc ks pc ls st h' uc us Q) : mj_wp G M d kc ks pc ls st (mj_up h 220 (mj_ob 5 [.ref (G.1 + 221), .ref (G.1 + 222), .ref (G.1 + 223), .int (τ 12 0), .int (τ 12 1), .ref (G.1 + 224), .ref (G.1 + 225), .ref (G.1 + 226), .int (τ 12 2), .int (τ 12 3), .int y, .int (τ 12 5), .int (τ 12 6), .int (τ 12 7), .int (τ 12 8), .ref (G.1 + 227), .ref (G.1 + 228), .int (τ 12 9), .ref (G.1 + 229), .ref (G.1 + 230), .ref (G.1 + 231), .ref (G.1 + 232), .int (τ 12 10)])) uc us Q := by
  obtain ⟨y0, y1, y2, y3, y4, y5, y6, y7, y8, y9, y10, y11, y12⟩ := hY
  exact k _ ⟨mj_ue, mj_un (by omega) y1, mj_un (by omega) y2, mj_un (by omega) y3, mj_un (by omega) y4, mj_un (by omega) y5, mj_un (by omega) y6, mj_un (by omega) y7, mj_un (by omega) y8, mj_un (by omega) y9, mj_un (by omega) y10, mj_un (by omega) y11, mj_un (by omega) y12⟩ (fr_up (by omega) (by omega))
theorem YF_5 {τ : Nat → Nat → Int32} {y : Int32} (hY : YS G h τ) (k : ∀ h', YS G h' (u2 τ 12 (upd (τ 12) 5 y)) → mj_fr 220 13 h h' → mj_wp G M d kc ks pc ls st h' uc us Q) : mj_wp G M d kc ks pc ls st (mj_up h 220 (mj_ob 5 [.ref (G.1 + 221), .ref (G.1 + 222), .ref (G.1 + 223), .int (τ 12 0), .int (τ 12 1), .ref (G.1 + 224), .ref (G.1 + 225), .ref (G.1 + 226), .int (τ 12 2), .int (τ 12 3), .int (τ 12 4), .int y, .int (τ 12 6), .int (τ 12 7), .int (τ 12 8), .ref (G.1 + 227), .ref (G.1 + 228), .int (τ 12 9), .ref (G.1 + 229), .ref (G.1 + 230), .ref (G.1 + 231), .ref (G.1 + 232), .int (τ 12 10)])) uc us Q := by
  obtain ⟨y0, y1, y2, y3, y4, y5, y6, y7, y8, y9, y10, y11, y12⟩ := hY
  exact k _ ⟨mj_ue, mj_un (by omega) y1, mj_un (by omega) y2, mj_un (by omega) y3, mj_un (by omega) y4, mj_un (by omega) y5, mj_un (by omega) y6, mj_un (by omega) y7, mj_un (by omega) y8, mj_un (by omega) y9, mj_un (by omega) y10, mj_un (by omega) y11, mj_un (by omega) y12⟩ (fr_up (by omega) (by omega))
theorem YF_6 {τ : Nat → Nat → Int32} {y : Int32} (hY : YS G h τ) (k : ∀ h', YS G h' (u2 τ 12 (upd (τ 12) 6 y)) → mj_fr 220 13 h h' → mj_wp G M d kc ks pc ls st h' uc us Q) : mj_wp G M d kc ks pc ls st (mj_up h 220 (mj_ob 5 [.ref (G.1 + 221), .ref (G.1 + 222), .ref (G.1 + 223), .int (τ 12 0), .int (τ 12 1), .ref (G.1 + 224), .ref (G.1 + 225), .ref (G.1 + 226), .int (τ 12 2), .int (τ 12 3), .int (τ 12 4), .int (τ 12 5), .int y, .int (τ 12 7), .int (τ 12 8), .ref (G.1 + 227), .ref (G.1 + 228), .int (τ 12 9), .ref (G.1 + 229), .ref (G.1 + 230), .ref (G.1 + 231), .ref (G.1 + 232), .int (τ 12 10)])) uc us Q := by
  obtain ⟨y0, y1, y2, y3, y4, y5, y6, y7, y8, y9, y10, y11, y12⟩ := hY
  exact k _ ⟨mj_ue, mj_un (by omega) y1, mj_un (by omega) y2, mj_un (by omega) y3, mj_un (by omega) y4, mj_un (by omega) y5, mj_un (by omega) y6, mj_un (by omega) y7, mj_un (by omega) y8, mj_un (by omega) y9, mj_un (by omega) y10, mj_un (by omega) y11, mj_un (by omega) y12⟩ (fr_up (by omega) (by omega))
theorem YF_7 {τ : Nat → Nat → Int32} {y : Int32} (hY : YS G h τ) (k : ∀ h', YS G h' (u2 τ 12 (upd (τ 12) 7 y)) → mj_fr 220 13 h h' → mj_wp G M d kc ks pc ls st h' uc us Q) : mj_wp G M d kc ks pc ls st (mj_up h 220 (mj_ob 5 [.ref (G.1 + 221), .ref (G.1 + 222), .ref (G.1 + 223), .int (τ 12 0), .int (τ 12 1), .ref (G.1 + 224), .ref (G.1 + 225), .ref (G.1 + 226), .int (τ 12 2), .int (τ 12 3), .int (τ 12 4), .int (τ 12 5), .int (τ 12 6), .int y, .int (τ 12 8), .ref (G.1 + 227), .ref (G.1 + 228), .int (τ 12 9), .ref (G.1 + 229), .ref (G.1 + 230), .ref (G.1 + 231), .ref (G.1 + 232), .int (τ 12 10)])) uc us Q := by
  obtain ⟨y0, y1, y2, y3, y4, y5, y6, y7, y8, y9, y10, y11, y12⟩ := hY
  exact k _ ⟨mj_ue, mj_un (by omega) y1, mj_un (by omega) y2, mj_un (by omega) y3, mj_un (by omega) y4, mj_un (by omega) y5, mj_un (by omega) y6, mj_un (by omega) y7, mj_un (by omega) y8, mj_un (by omega) y9, mj_un (by omega) y10, mj_un (by omega) y11, mj_un (by omega) y12⟩ (fr_up (by omega) (by omega))
theorem YF_8 {τ : Nat → Nat → Int32} {y : Int32} (hY : YS G h τ) (k : ∀ h', YS G h' (u2 τ 12 (upd (τ 12) 8 y)) → mj_fr 220 13 h h' → mj_wp G M d kc ks pc ls st h' uc us Q) : mj_wp G M d kc ks pc ls st (mj_up h 220 (mj_ob 5 [.ref (G.1 + 221), .ref (G.1 + 222), .ref (G.1 + 223), .int (τ 12 0), .int (τ 12 1), .ref (G.1 + 224), .ref (G.1 + 225), .ref (G.1 + 226), .int (τ 12 2), .int (τ 12 3), .int (τ 12 4), .int (τ 12 5), .int (τ 12 6), .int (τ 12 7), .int y, .ref (G.1 + 227), .ref (G.1 + 228), .int (τ 12 9), .ref (G.1 + 229), .ref (G.1 + 230), .ref (G.1 + 231), .ref (G.1 + 232), .int (τ 12 10)])) uc us Q := by
  obtain ⟨y0, y1, y2, y3, y4, y5, y6, y7, y8, y9, y10, y11, y12⟩ := hY
  exact k _ ⟨mj_ue, mj_un (by omega) y1, mj_un (by omega) y2, mj_un (by omega) y3, mj_un (by omega) y4, mj_un (by omega) y5, mj_un (by omega) y6, mj_un (by omega) y7, mj_un (by omega) y8, mj_un (by omega) y9, mj_un (by omega) y10, mj_un (by omega) y11, mj_un (by omega) y12⟩ (fr_up (by omega) (by omega))
theorem YF_9 {τ : Nat → Nat → Int32} {y : Int32} (hY : YS G h τ) (k : ∀ h', YS G h' (u2 τ 12 (upd (τ 12) 9 y)) → mj_fr 220 13 h h' → mj_wp G M d kc ks pc ls st h' uc us Q) : mj_wp G M d kc ks pc ls st (mj_up h 220 (mj_ob 5 [.ref (G.1 + 221), .ref (G.1 + 222), .ref (G.1 + 223), .int (τ 12 0), .int (τ 12 1), .ref (G.1 + 224), .ref (G.1 + 225), .ref (G.1 + 226), .int (τ 12 2), .int (τ 12 3), .int (τ 12 4), .int (τ 12 5), .int (τ 12 6), .int (τ 12 7), .int (τ 12 8), .ref (G.1 + 227), .ref (G.1 + 228), .int y, .ref (G.1 + 229), .ref (G.1 + 230), .ref (G.1 + 231), .ref (G.1 + 232), .int (τ 12 10)])) uc us Q := by
  obtain ⟨y0, y1, y2, y3, y4, y5, y6, y7, y8, y9, y10, y11, y12⟩ := hY
  exact k _ ⟨mj_ue, mj_un (by omega) y1, mj_un (by omega) y2, mj_un (by omega) y3, mj_un (by omega) y4, mj_un (by omega) y5, mj_un (by omega) y6, mj_un (by omega) y7, mj_un (by omega) y8, mj_un (by omega) y9, mj_un (by omega) y10, mj_un (by omega) y11, mj_un (by omega) y12⟩ (fr_up (by omega) (by omega))
theorem YF_10 {τ : Nat → Nat → Int32} {y : Int32} (hY : YS G h τ) (k : ∀ h', YS G h' (u2 τ 12 (upd (τ 12) 10 y)) → mj_fr 220 13 h h' → mj_wp G M d kc ks pc ls st h' uc us Q) : mj_wp G M d kc ks pc ls st (mj_up h 220 (mj_ob 5 [.ref (G.1 + 221), .ref (G.1 + 222), .ref (G.1 + 223), .int (τ 12 0), .int (τ 12 1), .ref (G.1 + 224), .ref (G.1 + 225), .ref (G.1 + 226), .int (τ 12 2), .int (τ 12 3), .int (τ 12 4), .int (τ 12 5), .int (τ 12 6), .int (τ 12 7), .int (τ 12 8), .ref (G.1 + 227), .ref (G.1 + 228), .int (τ 12 9), .ref (G.1 + 229), .ref (G.1 + 230), .ref (G.1 + 231), .ref (G.1 + 232), .int y])) uc us Q := by
  obtain ⟨y0, y1, y2, y3, y4, y5, y6, y7, y8, y9, y10, y11, y12⟩ := hY
  exact k _ ⟨mj_ue, mj_un (by omega) y1, mj_un (by omega) y2, mj_un (by omega) y3, mj_un (by omega) y4, mj_un (by omega) y5, mj_un (by omega) y6, mj_un (by omega) y7, mj_un (by omega) y8, mj_un (by omega) y9, mj_un (by omega) y10, mj_un (by omega) y11, mj_un (by omega) y12⟩ (fr_up (by omega) (by omega))
end YPW
theorem mj_ixm {c : Int32} {k r i n : Nat} (hc : c = nI k) (h : k * r + i < n ∧ n < 2147483648) : mj_ix (c * nI r + nI i) n (k * r + i) := by
  subst hc
  rw [pk_mul, nI_add]
  exact mj_ixn h
theorem l_le {a b : Int64} : a ≤ b ↔ a.toInt ≤ b.toInt := Int64.le_iff_toInt_le
theorem l_lt {a b : Int64} : a < b ↔ a.toInt < b.toInt := Int64.lt_iff_toInt_lt
theorem lcn {x y : Int64} : lg_cmp x y < 0 ↔ x < y := by
  unfold lg_cmp
  by_cases h : x > y
  · rw [if_pos h]
    exact ⟨fun q => absurd q (by decide), fun q => by rw [l_lt] at q; have := l_lt.mp h; omega⟩
  · rw [if_neg h]
    by_cases h2 : x = y
    · rw [if_pos h2]
      exact ⟨fun q => absurd q (by decide), fun q => by rw [h2, l_lt] at q; omega⟩
    · rw [if_neg h2]
      refine ⟨fun _ => ?_, fun _ => by decide⟩
      rw [l_lt]
      have a : ¬ y.toInt < x.toInt := fun z => h (l_lt.mpr z)
      have b : x.toInt ≠ y.toInt := fun z => h2 (Int64.toInt_inj.mp z)
      omega
set_option maxRecDepth 100000 in
set_option maxHeartbeats 4000000 in
theorem y_in0 {G : mj_G} {h : mj_H} {d : Nat} {a b c : Int64} : mj_con G MX5_in d 0 0 [.long a, .long b, .long c] h (rI (if b ≤ a ∧ a ≤ c then 1 else 0) h) := by
  refine mj_conS okX5_in (ls := [some (.long a), none, some (.long b), none, some (.long c), none]) rfl rfl ?_
  refine s_lload_n (n := 1) (i := 0) dX5_in_0 rfl rfl rfl ?_
  refine s_lload_n (n := 2) (i := 2) dX5_in_1 rfl rfl rfl ?_
  refine s_lcmp (n := 3) dX5_in_2 rfl ?_
  refine s_if_lt (n := 6) (tgt := 17) dX5_in_3 rfl rfl (fun b3 => ?_) (fun b3 => ?_)
  · refine s_iconst (n := 18) (v := 0) dX5_in_17 rfl (by decide) ?_
    refine s_ireturn dX5_in_18 rfl (rfl) (Nat.le_refl _) (Nat.le_refl _) ?_
    refine rI_ok ?_
    simp only [lcn, lcp, l_le, l_lt] at *
    split <;> first | rfl | (exfalso; omega)
  · refine s_lload_n (n := 7) (i := 0) dX5_in_6 rfl rfl rfl ?_
    refine s_lload (n := 9) dX5_in_7 rfl rfl ?_
    refine s_lcmp (n := 10) dX5_in_9 rfl ?_
    refine s_if_gt (n := 13) (tgt := 17) dX5_in_10 rfl rfl (fun b10 => ?_) (fun b10 => ?_)
    · refine s_iconst (n := 18) (v := 0) dX5_in_17 rfl (by decide) ?_
      refine s_ireturn dX5_in_18 rfl (rfl) (Nat.le_refl _) (Nat.le_refl _) ?_
      refine rI_ok ?_
      simp only [lcn, lcp, l_le, l_lt] at *
      split <;> first | rfl | (exfalso; omega)
    · refine s_iconst (n := 14) (v := 1) dX5_in_13 rfl (by decide) ?_
      refine s_goto (tgt := 18) dX5_in_14 rfl ?_
      refine s_ireturn dX5_in_18 rfl (rfl) (Nat.le_refl _) (Nat.le_refl _) ?_
      refine rI_ok ?_
      simp only [lcn, lcp, l_le, l_lt] at *
      split <;> first | rfl | (exfalso; omega)
theorem y_in {G : mj_G} {h : mj_H} {d : Nat} {x : Int32} {b c : Int64} {A B : Int} (hA : b.toInt = A) (hB : c.toInt = B) : mj_con G MX5_in d 0 0 [.long x.toInt64, .long b, .long c] h (rI (if Wi x A B then 1 else 0) h) := by
  have e : (if b ≤ x.toInt64 ∧ x.toInt64 ≤ c then (1 : Int32) else 0) = if Wi x A B then 1 else 0 := by
    unfold Wi
    simp only [l_le, Int32.toInt_toInt64, hA, hB]
  rw [← e]
  exact y_in0
set_option maxRecDepth 100000 in
set_option maxHeartbeats 4000000 in
theorem y_has {G : mj_G} {h : mj_H} {d : Nat} {x k : Int32} : mj_con G MX5_has d 0 0 [.int x, .int k] h (rI (if (x >>> (k &&& 31)) &&& 1 = 1 then 1 else 0) h) := by
  refine mj_conS okX5_has (ls := [some (.int x), some (.int k)]) rfl rfl ?_
  refine s_iload_n (n := 1) (i := 0) dX5_has_0 rfl rfl rfl ?_
  refine s_iload_n (n := 2) (i := 1) dX5_has_1 rfl rfl rfl ?_
  refine s_ishr (n := 3) dX5_has_2 rfl ?_
  refine s_iconst (n := 4) (v := 1) dX5_has_3 rfl (by decide) ?_
  refine s_iand (n := 5) dX5_has_4 rfl ?_
  refine s_iconst (n := 6) (v := 1) dX5_has_5 rfl (by decide) ?_
  refine s_icmp_ne (n := 9) (tgt := 13) dX5_has_6 rfl rfl (fun b6 => ?_) (fun b6 => ?_)
  · refine s_iconst (n := 14) (v := 0) dX5_has_13 rfl (by decide) ?_
    refine s_ireturn dX5_has_14 rfl (rfl) (Nat.le_refl _) (Nat.le_refl _) ?_
    refine rI_ok ?_
    first | rw [if_pos (by assumption)] | rw [if_neg (by assumption)]
  · refine s_iconst (n := 10) (v := 1) dX5_has_9 rfl (by decide) ?_
    refine s_goto (tgt := 14) dX5_has_10 rfl ?_
    refine s_ireturn dX5_has_14 rfl (rfl) (Nat.le_refl _) (Nat.le_refl _) ?_
    refine rI_ok ?_
    first | rw [if_pos (by assumption)] | rw [if_neg (by assumption)]
def itz : Nat → Int32 → Bool
  | 0, x => x == 0
  | r + 1, x => x == 0 || itz r (x &&& (x - 1))
def onC : Nat → Int32 → Int32 → Int32
  | 0, _, acc => acc
  | r + 1, x, acc => if x = 0 then acc else onC r (x &&& (x - 1)) (acc + 1)
set_option maxRecDepth 100000 in
set_option maxHeartbeats 4000000 in
theorem l_ones {G : mj_G} {h : mj_H} {d : Nat} {s : Int32} : ∀ (r : Nat) (x acc : Int32), itz r x = true → mj_wp G MX5_ones d 0 0 4 [some (.int s), some (.int acc), some (.int x)] [] h 0 0 (rI (onC r x acc) h) := by
  intro r
  induction r with
  | zero =>
    intro x acc hz
    have hx : x = 0 := by simpa [itz] using hz
    refine s_iload_n (n := 5) (i := 2) dX5_ones_4 rfl rfl rfl ?_
    refine s_if_eq (n := 8) (tgt := 20) dX5_ones_5 rfl rfl (fun b5 => ?_) (fun b5 => ?_)
    · refine s_iload_n (n := 21) (i := 1) dX5_ones_20 rfl rfl rfl ?_
      refine s_ireturn dX5_ones_21 rfl (rfl) (Nat.le_refl _) (Nat.le_refl _) ?_
      exact rI_ok rfl
    · exact absurd hx b5
  | succ r ih =>
    intro x acc hz
    refine s_iload_n (n := 5) (i := 2) dX5_ones_4 rfl rfl rfl ?_
    refine s_if_eq (n := 8) (tgt := 20) dX5_ones_5 rfl rfl (fun b5 => ?_) (fun b5 => ?_)
    · refine s_iload_n (n := 21) (i := 1) dX5_ones_20 rfl rfl rfl ?_
      refine s_ireturn dX5_ones_21 rfl (rfl) (Nat.le_refl _) (Nat.le_refl _) ?_
      unfold onC
      rw [if_pos b5]
      exact rI_ok rfl
    · have hz2 : itz r (x &&& (x - 1)) = true := by
        have q := hz
        unfold itz at q
        simpa [b5] using q
      refine s_iinc (n := 11) (v := _ + 1) (ls' := [_, _, _]) dX5_ones_8 rfl rfl rfl rfl rfl ?_
      refine s_iload_n (n := 12) (i := 2) dX5_ones_11 rfl rfl rfl ?_
      refine s_iload_n (n := 13) (i := 2) dX5_ones_12 rfl rfl rfl ?_
      refine s_iconst (n := 14) (v := 1) dX5_ones_13 rfl (by decide) ?_
      refine s_isub (n := 15) dX5_ones_14 rfl ?_
      refine s_iand (n := 16) dX5_ones_15 rfl ?_
      refine s_istore_n (n := 17) (i := 2) (ls' := [_, _, _]) dX5_ones_16 rfl rfl rfl rfl rfl ?_
      refine s_goto (tgt := 4) dX5_ones_17 rfl ?_
      unfold onC
      rw [if_neg b5]
      exact ih _ _ hz2
set_option maxRecDepth 100000 in
set_option maxHeartbeats 4000000 in
theorem y_ones0 {G : mj_G} {h : mj_H} {d : Nat} {s : Int32} (hz : itz 7 s = true) : mj_con G MX5_ones d 0 0 [.int s] h (rI (onC 7 s 0) h) := by
  refine mj_conS okX5_ones (ls := [some (.int s), none, none]) rfl rfl ?_
  refine s_iconst (n := 1) (v := 0) dX5_ones_0 rfl (by decide) ?_
  refine s_istore_n (n := 2) (i := 1) (ls' := [_, _, _]) dX5_ones_1 rfl rfl rfl rfl rfl ?_
  refine s_iload_n (n := 3) (i := 0) dX5_ones_2 rfl rfl rfl ?_
  refine s_istore_n (n := 4) (i := 2) (ls' := [_, _, _]) dX5_ones_3 rfl rfl rfl rfl rfl ?_
  exact l_ones 7 _ _ hz
theorem ones_all : ∀ s, s < 128 → itz 7 (nI s) = true ∧ onC 7 (nI s) 0 = bc (nI s) := by decide +kernel
theorem y_ones {G : mj_G} {h : mj_H} {d s : Nat} (hs : s < 128) : mj_con G MX5_ones d 0 0 [.int (nI s)] h (rI (bc (nI s)) h) := by
  rw [← (ones_all s hs).2]
  exact y_ones0 (ones_all s hs).1
set_option maxRecDepth 100000 in
set_option maxHeartbeats 4000000 in
theorem y_find {G : mj_G} {h : mj_H} {d : Nat} {τ : Nat → Nat → Int32} (hY : YS G h τ) {f : Int32} : mj_con G MX5_find d 0 0 [.ref (G.1 + 220), .int f] h (fun v h' => v = some (.int (-1000010 - f)) ∧ YS G h' (u2 (τ) 12 (upd (τ 12) 0 f)) ∧ mj_fr 220 13 h h') := by
  refine mj_conV okX5_find (ls := [some (.ref (G.1 + 220)), some (.int f)]) rfl rfl ?_
  obtain ⟨y0, y1, y2, y3, y4, y5, y6, y7, y8, y9, y10, y11, y12⟩ := id hY
  refine s_aload_n (n := 1) (i := 0) dX5_find_0 rfl rfl rfl ?_
  refine s_iload_n (n := 2) (i := 1) dX5_find_1 rfl rfl rfl ?_
  refine pf_X5_47 (n := 5) (fs' := [_, _, _, _, _, _, _, _, _, _, _, _, _, _, _, _, _, _, _, _, _, _, _]) rfl dX5_find_2 rfl (by assumption) (by rfl) (by rfl) ?_
  refine YF_0 hY (fun h1 hY1 hF1 => ?_)
  refine s_ldc (n := 7) dX5_find_5 rfl wd_X5_51 ?_
  refine s_iload_n (n := 8) (i := 1) dX5_find_7 rfl rfl rfl ?_
  refine s_isub (n := 9) dX5_find_8 rfl ?_
  refine s_ireturn dX5_find_9 rfl (rfl) (Nat.le_refl _) (Nat.le_refl _) ?_
  exact ⟨rfl, hY1, hF1⟩
set_option maxRecDepth 100000 in
set_option maxHeartbeats 4000000 in
theorem y_well {G : mj_G} {h : mj_H} {d : Nat} {τ : Nat → Nat → Int32} (hY : YS G h τ) {f : Int32} : mj_con G MX5_well d 0 0 [.ref (G.1 + 220), .int f] h (fun v h' => v = some (.int (f)) ∧ YS G h' (u2 (τ) 12 (upd (τ 12) 0 0)) ∧ mj_fr 220 13 h h') := by
  refine mj_conV okX5_well (ls := [some (.ref (G.1 + 220)), some (.int f)]) rfl rfl ?_
  obtain ⟨y0, y1, y2, y3, y4, y5, y6, y7, y8, y9, y10, y11, y12⟩ := id hY
  refine s_aload_n (n := 1) (i := 0) dX5_well_0 rfl rfl rfl ?_
  refine s_iconst (n := 2) (v := 0) dX5_well_1 rfl (by decide) ?_
  refine pf_X5_47 (n := 5) (fs' := [_, _, _, _, _, _, _, _, _, _, _, _, _, _, _, _, _, _, _, _, _, _, _]) rfl dX5_well_2 rfl (by assumption) (by rfl) (by rfl) ?_
  refine YF_0 hY (fun h1 hY1 hF1 => ?_)
  refine s_iload_n (n := 6) (i := 1) dX5_well_5 rfl rfl rfl ?_
  refine s_ireturn dX5_well_6 rfl (rfl) (Nat.le_refl _) (Nat.le_refl _) ?_
  exact ⟨rfl, hY1, hF1⟩
set_option maxRecDepth 100000 in
set_option maxHeartbeats 4000000 in
theorem y_isRow {G : mj_G} {h : mj_H} {d : Nat} {x : Int32} (hd : 1 ≤ d) : mj_con G MX5_isRow d 0 0 [.int x] h (rI (if Wi x 0 7 then 1 else 0) h) := by
  refine mj_conS okX5_isRow (ls := [some (.int x)]) rfl rfl ?_
  refine s_iload_n (n := 1) (i := 0) dX5_isRow_0 rfl rfl rfl ?_
  refine s_i2l (n := 2) dX5_isRow_1 rfl ?_
  refine s_lconst (n := 3) (v := 0) dX5_isRow_2 rfl (by decide) ?_
  refine s_ldc2 (n := 6) dX5_isRow_3 rfl wd_X5_52 ?_
  refine s_s3 (M' := MX5_in) (n := 9) dX5_isRow_6 rfl wd_X5_54 okX5_in rfl (by omega) ⟨Nat.le_refl _, Nat.le_refl _⟩ (y_in (d := d - 1) (A := 0) (B := 7) (by decide) (by decide)) ?_
  rintro v6 hh6 ⟨rfl, rfl⟩
  refine s_ireturn dX5_isRow_9 rfl (nar_if) (Nat.le_refl _) (Nat.le_refl _) ?_
  exact rI_ok rfl
set_option maxRecDepth 100000 in
set_option maxHeartbeats 4000000 in
theorem y_isWhat {G : mj_G} {h : mj_H} {d : Nat} {x : Int32} (hd : 1 ≤ d) : mj_con G MX5_isWhat d 0 0 [.int x] h (rI (if Wi x 0 1 then 1 else 0) h) := by
  refine mj_conS okX5_isWhat (ls := [some (.int x)]) rfl rfl ?_
  refine s_iload_n (n := 1) (i := 0) dX5_isWhat_0 rfl rfl rfl ?_
  refine s_i2l (n := 2) dX5_isWhat_1 rfl ?_
  refine s_lconst (n := 3) (v := 0) dX5_isWhat_2 rfl (by decide) ?_
  refine s_lconst (n := 4) (v := 1) dX5_isWhat_3 rfl (by decide) ?_
  refine s_s3 (M' := MX5_in) (n := 7) dX5_isWhat_4 rfl wd_X5_54 okX5_in rfl (by omega) ⟨Nat.le_refl _, Nat.le_refl _⟩ (y_in (d := d - 1) (A := 0) (B := 1) (by decide) (by decide)) ?_
  rintro v4 hh4 ⟨rfl, rfl⟩
  refine s_ireturn dX5_isWhat_7 rfl (nar_if) (Nat.le_refl _) (Nat.le_refl _) ?_
  exact rI_ok rfl
set_option maxRecDepth 100000 in
set_option maxHeartbeats 4000000 in
theorem y_isHouse {G : mj_G} {h : mj_H} {d : Nat} {τ : Nat → Nat → Int32} (hY : YS G h τ) {n : Nat} (hn : τ 0 2 = nI n) (h7 : n ≤ 7) {x : Int32} (hd : 1 ≤ d) : mj_con G MX5_isHouse d 0 0 [.ref (G.1 + 220), .int x] h (rI (if Hs n x then 1 else 0) h) := by
  refine mj_conV okX5_isHouse (ls := [some (.ref (G.1 + 220)), some (.int x)]) rfl rfl ?_
  obtain ⟨y0, y1, y2, y3, y4, y5, y6, y7, y8, y9, y10, y11, y12⟩ := id hY
  refine s_iload_n (n := 1) (i := 1) dX5_isHouse_0 rfl rfl rfl ?_
  refine s_i2l (n := 2) dX5_isHouse_1 rfl ?_
  refine s_lconst (n := 3) (v := 0) dX5_isHouse_2 rfl (by decide) ?_
  refine s_aload_n (n := 4) (i := 0) dX5_isHouse_3 rfl rfl rfl ?_
  refine gf_X5_19 (n := 7) rfl dX5_isHouse_4 rfl (by assumption) (by rfl) ?_
  refine s_iconst (n := 8) (v := 2) dX5_isHouse_7 rfl (by decide) ?_
  refine s_iald (n := 9) dX5_isHouse_8 rfl (by assumption) (mj_ixe (j := 2) rfl (by omega)) ?_
  rw [hn]
  refine s_iconst (n := 10) (v := 1) dX5_isHouse_9 rfl (by decide) ?_
  refine s_isub (n := 11) dX5_isHouse_10 rfl ?_
  refine s_i2l (n := 12) dX5_isHouse_11 rfl ?_
  refine s_s3 (M' := MX5_in) (n := 15) dX5_isHouse_12 rfl wd_X5_54 okX5_in rfl (by omega) ⟨Nat.le_refl _, Nat.le_refl _⟩ (y_in (d := d - 1) (A := 0) (by decide) rfl) ?_
  rintro v12 hh12 ⟨rfl, rfl⟩
  refine s_ireturn dX5_isHouse_15 rfl (nar_if) (Nat.le_refl _) (Nat.le_refl _) ?_
  refine rI_ok ?_
  rw [Int32.toInt_toInt64]
  exact hs_eq h7

