theorem kX1_takeNext_u {l : Launch} {D : va_G} {cy : Nat → ClassId} {ad : Nat → Nat} {n : Nat} {A : Nat → Prop} (hI : mI ad n A) {M : Nat → va_E} {xs : Nat → Arg} {cnt tk od : Nat} (h : isArgs cy ad n M xs cnt tk od) : mMq l yX1_takeNext (gW yX1_takeNext cX1_takeNext 1 (some (.object "FormatDump$Argument"))) { frames := 0, cells := 0, slots := 0, locals := 0 } D cy ad n A [.ref (ad 9)] M (fun res M' => res = nxR ad cnt tk ∧ isArgs cy ad n M' xs cnt (nextT cnt tk) od ∧ Fr argS M M') := by
  unfold nxR nextT
  by_cases hc : tk < cnt
  · rw [if_pos hc, if_pos hc]
    have h9 := kX1_takeNext_t (l := l) (D := D) hI h hc
    exact Met.weaken_q h9 (fun r u q => ⟨q.1, q.2.1, q.2.2.sub (by decide)⟩)
  · rw [if_neg hc, if_neg hc]
    have h9 := kX1_takeNext_n (l := l) (D := D) hI h (by omega)
    exact Met.weaken_q h9 (fun r u q => ⟨q.1, by rw [q.2]; exact h, by rw [q.2]; exact Fr.rf⟩)
theorem kX8_loadText_u {l : Launch} {D : va_G} {cy : Nat → ClassId} {ad : Nat → Nat} {n : Nat} {A : Nat → Prop} (hI : mI ad n A) {M : Nat → va_E} (hn : 52 ≤ n) {ended : Bool} (hpr : M 36 = prO ad ended) {P : List Nat} (hp : isRow cy ad n M 39 40 80 80 P) {ds : List Nat} {lg : Bool} (hf : isFig cy ad n M 1 2 ds lg) {xs : Nat → Arg} {cnt tk0 od : Nat} (hA : isArgs cy ad n M xs cnt tk0 od) (tk : Nat) : mMv l yX8_loadText (gW yX8_loadText cX8_loadText 2 none) { frames := 3, cells := 0, slots := 0, locals := 75 } D cy ad n A [.ref (ad 36), va_rf (nxR ad cnt tk)] M (fun M' => isRow cy ad n M' 39 40 80 80 (nxA xs cnt tk) ∧ Fr [1, 2, 39, 40] M M') := by
  unfold nxR nxA
  by_cases hc : tk < cnt
  · rw [if_pos hc, if_pos hc]
    have h2 := hA.2.1
    exact kX8_loadText_t hI hn hpr hp hf (hA.2.2.2.2.2.2.1 tk (by omega)) (by omega)
  · rw [if_neg hc, if_neg hc]
    exact kX8_loadText_n hI hn hpr hp hf
theorem kX8_loadCharacter_u {l : Launch} {D : va_G} {cy : Nat → ClassId} {ad : Nat → Nat} {n : Nat} {A : Nat → Prop} (hI : mI ad n A) {M : Nat → va_E} (hn : 52 ≤ n) {ended : Bool} (hpr : M 36 = prO ad ended) {P : List Nat} (hp : isRow cy ad n M 39 40 80 80 P) {xs : Nat → Arg} {cnt tk0 od : Nat} (hA : isArgs cy ad n M xs cnt tk0 od) (tk : Nat) : mMv l yX8_loadCharacter (gW yX8_loadCharacter cX8_loadCharacter 2 none) { frames := 1, cells := 0, slots := 0, locals := 21 } D cy ad n A [.ref (ad 36), va_rf (nxR ad cnt tk)] M (fun M' => isRow cy ad n M' 39 40 80 80 (nxC xs cnt tk) ∧ Fr [39, 40] M M') := by
  unfold nxR nxC
  by_cases hc : tk < cnt
  · rw [if_pos hc, if_pos hc]
    have h2 := hA.2.1
    exact kX8_loadCharacter_t hI hn hpr hp (hA.2.2.2.2.2.2.1 tk (by omega)) (by omega)
  · rw [if_neg hc, if_neg hc]
    exact kX8_loadCharacter_n hI hn hpr hp
