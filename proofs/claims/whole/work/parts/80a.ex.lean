theorem isRow.ex {cy : Nat → ClassId} {ad ad' : Nat → Nat} {n n' : Nat} {M M' : Nat → va_E} {r ra cap lim : Nat} {O : List Nat} (h : isRow cy ad n M r ra cap lim O) (he : Ex n ad ad') (hn : n ≤ n') (hk : ∀ k ∈ [r, ra], M' k = M k) : isRow cy ad' n' M' r ra cap lim O := by
  obtain ⟨h1, h2, h3, h4, h5, g, h6, h7, h8⟩ := h
  refine ⟨by omega, by omega, h3, h4, h5, g, ?_, (hk ra (by simp)).trans h7, h8⟩
  rw [he ra h2, hk r (by simp)]
  exact h6
theorem isFig.ex {cy : Nat → ClassId} {ad ad' : Nat → Nat} {n n' : Nat} {M M' : Nat → va_E} {fo fa : Nat} {ds : List Nat} {lg : Bool} (h : isFig cy ad n M fo fa ds lg) (he : Ex n ad ad') (hn : n ≤ n') (hk : ∀ k ∈ [fo, fa], M' k = M k) : isFig cy ad' n' M' fo fa ds lg := by
  obtain ⟨h1, h2, h3, h4, g, h6, h7, h8⟩ := h
  refine ⟨by omega, by omega, h3, h4, g, ?_, (hk fa (by simp)).trans h7, h8⟩
  rw [he fa h2, hk fo (by simp)]
  exact h6
theorem isArg.ex {cy : Nat → ClassId} {ad ad' : Nat → Nat} {n n' : Nat} {M M' : Nat → va_E} {o : Nat} {x : Arg} (h : isArg cy ad n M o x) (he : Ex n ad ad') (hn : n ≤ n') (hk : ∀ k ∈ [o, o + 1, o + 2], M' k = M k) : isArg cy ad' n' M' o x := by
  obtain ⟨h0, t, v, T, e1, e2, e3, e4⟩ := h
  have h1 := e2.1
  refine ⟨by omega, t, v, T, ?_, e2.ex he hn (fun k hq => hk k (List.mem_cons_of_mem _ hq)), e3, e4⟩
  rw [he _ h1, hk o (by simp)]
  exact e1
theorem isArgs.ex {cy : Nat → ClassId} {ad ad' : Nat → Nat} {n n' : Nat} {M M' : Nat → va_E} {xs : Nat → Arg} {cnt tk od : Nat} (h : isArgs cy ad n M xs cnt tk od) (he : Ex n ad ad') (hn : n ≤ n') (hk : ∀ k ∈ argS, M' k = M k) : isArgs cy ad' n' M' xs cnt tk od := by
  have hx : ∀ k, 9 ≤ k → k ≤ 35 → M' k = M k := fun k h1 h2 => hk k (mem_argS.mpr ⟨h1, h2⟩)
  obtain ⟨h1, h2, h3, h4, h5, ⟨f, h6, h7⟩, h8, rv, ro, h9⟩ := h
  refine ⟨by omega, h2, h3, h4, ?_, ⟨f, (hx 10 (by omega) (by omega)).trans h6, fun i hi => ?_⟩, fun i hi => ?_, rv, ro, (hx 35 (by omega) (by omega)).trans h9⟩
  · rw [he 10 (by omega), he 35 (by omega), hx 9 (by omega) (by omega)]
    exact h5
  · rw [h7 i hi, he _ (by omega)]
  · refine (h8 i hi).ex he hn (fun k hq => ?_)
    simp only [List.mem_cons, List.not_mem_nil, or_false] at hq
    exact hx k (by omega) (by omega)
/-- a row just made -/
theorem isRow.mk0 {cy : Nat → ClassId} {ad : Nat → Nat} {n : Nat} {M : Nat → va_E} {r ra cap : Nat} (h1 : r < n) (h2 : ra < n) (h3 : cap ≤ 2000) (h4 : M r = .inr (9, [.ref (ad ra), .int (nI cap), .int (nI 0), .int (bI false)])) (h5 : M ra = .inl (cy 1, cap, .inl (fun _ => 0))) : isRow cy ad n M r ra cap cap [] := by
  refine ⟨h1, h2, Nat.le_refl _, h3, (fun x hx => by cases hx), fun _ => 0, ?_, h5, fun i hi => ?_⟩
  · rw [h4, List.length_nil, Nat.zero_min, decide_eq_false (Nat.not_lt_zero _)]
  · rw [List.length_nil, Nat.zero_min] at hi; exact absurd hi (Nat.not_lt_zero _)
def Kp (n : Nat) (S : List Nat) (M M' : Nat → va_E) : Prop := ∀ k, k < n → k ∉ S → M' k = M k
theorem Kp.rf {n : Nat} {S : List Nat} {M : Nat → va_E} : Kp n S M M := fun _ _ _ => rfl
theorem Kp.fr {n : Nat} {S S2 : List Nat} {M M' M'' : Nat → va_E} (h : Kp n S M M') (hF : Fr S2 M' M'') (hs : ∀ k ∈ S2, k < n → k ∈ S) : Kp n S M M'' := fun k hk hn => (hF k (fun q => hn (hs k q hk))).trans (h k hk hn)
theorem Kp.nw {n n2 : Nat} {S : List Nat} {M M' M'' : Nat → va_E} (h : Kp n S M M') (hm : ∀ k, k ≠ n2 → M'' k = M' k) (hn : n ≤ n2) : Kp n S M M'' := fun k hk hs => (hm k (by omega)).trans (h k hk hs)
theorem Kp.kp {n n2 : Nat} {S S2 : List Nat} {M M' M'' : Nat → va_E} (h : Kp n S M M') (h2 : Kp n2 S2 M' M'') (hn : n ≤ n2) (hs : ∀ k ∈ S2, k < n → k ∈ S) : Kp n S M M'' := fun k hk hq => (h2 k (by omega) (fun z => hq (hs k z hk))).trans (h k hk hq)
theorem isArg.obj {cy : Nat → ClassId} {ad : Nat → Nat} {n : Nat} {M : Nat → va_E} {o : Nat} {x : Arg} (h : isArg cy ad n M o x) : ∃ fs, M o = .inr (0, fs) := by
  obtain ⟨-, t, v, T, e1, -⟩ := h
  exact ⟨_, e1⟩
theorem args_f {ad : Nat → Nat} : ∀ i, i < 8 → (va_up (va_up (va_up (va_up (va_up (va_up (va_up (va_up (fun _ => none) 0 (some (ad 11))) 1 (some (ad 14))) 2 (some (ad 17))) 3 (some (ad 20))) 4 (some (ad 23))) 5 (some (ad 26))) 6 (some (ad 29))) 7 (some (ad 32)) : Nat → Option Nat) i = some (ad (11 + 3 * i)) := by
  intro i hi
  match i, hi with
  | 0, _ => rfl
  | 1, _ => rfl
  | 2, _ => rfl
  | 3, _ => rfl
  | 4, _ => rfl
  | 5, _ => rfl
  | 6, _ => rfl
  | 7, _ => rfl
  | n + 8, h => exact absurd h (by omega)
theorem args_a {cy : Nat → ClassId} {ad : Nat → Nat} {n : Nat} {M : Nat → va_E} {x : Arg} (h0 : isArg cy ad n M 11 x) (h1 : isArg cy ad n M 14 x) (h2 : isArg cy ad n M 17 x) (h3 : isArg cy ad n M 20 x) (h4 : isArg cy ad n M 23 x) (h5 : isArg cy ad n M 26 x) (h6 : isArg cy ad n M 29 x) (h7 : isArg cy ad n M 32 x) : ∀ i, i < 8 → isArg cy ad n M (11 + 3 * i) ((fun _ => x : Nat → Arg) i) := by
  intro i hi
  match i, hi with
  | 0, _ => exact h0
  | 1, _ => exact h1
  | 2, _ => exact h2
  | 3, _ => exact h3
  | 4, _ => exact h4
  | 5, _ => exact h5
  | 6, _ => exact h6
  | 7, _ => exact h7
  | n + 8, h => exact absurd h (by omega)
