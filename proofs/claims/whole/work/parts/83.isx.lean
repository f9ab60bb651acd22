/-- the class's object and all that it made, at rest -/
def isX (cy : Nat → ClassId) (ad : Nat → Nat) (n : Nat) (M : Nat → va_E) (T : List Nat) (xs : Nat → Arg) (cnt lim : Nat) (O B : List Nat) (fp ot : Int32) : Prop :=
  52 ≤ n ∧ M 0 = fdO ad fp ot ∧ isRow cy ad n M 3 4 80 80 T ∧ T.length ≤ 80 ∧ (∃ (en : Bool) (tk od : Nat), isPS cy ad n M en lim O xs cnt tk od) ∧ O.length ≤ lim ∧ lim ≤ 2000 ∧ isRow cy ad n M 7 8 256 256 B ∧ B.length ≤ 256 ∧ isDir M ∧ (∃ a b c : Int32, M 43 = wdO ad a b c) ∧ (∃ F, isRow cy ad n M 44 45 22 22 F) ∧ M 46 = pdO ad ∧ (∃ t i : Nat, M 47 = rdO ad (nI t) (nI i)) ∧ (∃ Fd, isRow cy ad n M 48 49 256 256 Fd) ∧ ∃ L, isRow cy ad n M 50 51 32 32 L
def clsS : List Nat := [0, 1, 2, 3, 4, 5, 6, 7, 8, 9, 10, 11, 12, 13, 14, 15, 16, 17, 18, 19, 20, 21, 22, 23, 24, 25, 26, 27, 28, 29, 30, 31, 32, 33, 34, 35, 36, 37, 38, 39, 40, 41, 42, 43, 44, 45, 46, 47, 48, 49, 50, 51]
theorem isPS.fr2 {cy : Nat → ClassId} {ad : Nat → Nat} {n : Nat} {M M' : Nat → va_E} {en : Bool} {lim : Nat} {O : List Nat} {xs : Nat → Arg} {cnt tk od : Nat} {S : List Nat} (h : isPS cy ad n M en lim O xs cnt tk od) (hF : Fr S M M') (hS : ∀ k ∈ S, 52 ≤ k) : isPS cy ad n M' en lim O xs cnt tk od := h.fr hF (fun k hk q => by
  have h1 := hS k hk
  have h2 : ∀ j ∈ prtS, j < 52 := by decide
  have := h2 k q
  omega)
theorem isX.fr {cy : Nat → ClassId} {ad : Nat → Nat} {n : Nat} {M M' : Nat → va_E} {S : List Nat} {T : List Nat} {xs : Nat → Arg} {cnt lim : Nat} {O B : List Nat} {fp ot : Int32} (h : isX cy ad n M T xs cnt lim O B fp ot) (hF : Fr S M M') (hS : ∀ k ∈ S, 52 ≤ k) : isX cy ad n M' T xs cnt lim O B fp ot := by
  have hx : ∀ k, k < 52 → k ∉ S := fun k h1 q => by have := hS k q; omega
  obtain ⟨h1, h2, h3, h4, ⟨en, tk, od, h5⟩, h6, h7, h8, h9, h10, ⟨w1, w2, w3, h11⟩, ⟨F, h12⟩, h13, ⟨t, i, h14⟩, ⟨Fd, h15⟩, L, h16⟩ := h
  exact ⟨h1, (hF 0 (hx 0 (by decide))).trans h2, h3.fr hF (hx 3 (by decide)) (hx 4 (by decide)), h4, ⟨en, tk, od, h5.fr2 hF hS⟩, h6, h7, h8.fr hF (hx 7 (by decide)) (hx 8 (by decide)), h9, h10.fr hF (hx 38 (by decide)), ⟨w1, w2, w3, (hF 43 (hx 43 (by decide))).trans h11⟩, ⟨F, h12.fr hF (hx 44 (by decide)) (hx 45 (by decide))⟩, (hF 46 (hx 46 (by decide))).trans h13, ⟨t, i, (hF 47 (hx 47 (by decide))).trans h14⟩, ⟨Fd, h15.fr hF (hx 48 (by decide)) (hx 49 (by decide))⟩, L, h16.fr hF (hx 50 (by decide)) (hx 51 (by decide))⟩
theorem isX.line {cy : Nat → ClassId} {ad : Nat → Nat} {n : Nat} {M M' : Nat → va_E} {T : List Nat} {xs : Nat → Arg} {cnt lim : Nat} {O B : List Nat} {fp ot : Int32} (h : isX cy ad n M T xs cnt lim O B fp ot) {T' : List Nat} (hr : isRow cy ad n M' 3 4 80 80 T') (hl : T'.length ≤ 80) (hF : Fr [3, 4] M M') : isX cy ad n M' T' xs cnt lim O B fp ot := by
  obtain ⟨h1, h2, h3, h4, ⟨en, tk, od, p1, p2, p3, p4, ⟨ds, lg, p5⟩, p6, ⟨P7, p7⟩, P8, p8⟩, h6, h7, h8, h9, h10, ⟨w1, w2, w3, h11⟩, ⟨F, h12⟩, h13, ⟨t, i, h14⟩, ⟨Fd, h15⟩, L, h16⟩ := h
  exact ⟨h1, (hF 0 (by decide)).trans h2, hr, hl, ⟨en, tk, od, p1, (hF 36 (by decide)).trans p2, p3.fr hF (by decide) (by decide), p4.fr hF (by decide), ⟨ds, lg, p5.fr hF (by decide) (by decide)⟩, p6.fr hF (by decide), ⟨P7, p7.fr hF (by decide) (by decide)⟩, P8, p8.fr hF (by decide) (by decide)⟩, h6, h7, h8.fr hF (by decide) (by decide), h9, h10.fr hF (by decide), ⟨w1, w2, w3, (hF 43 (by decide)).trans h11⟩, ⟨F, h12.fr hF (by decide) (by decide)⟩, (hF 46 (by decide)).trans h13, ⟨t, i, (hF 47 (by decide)).trans h14⟩, ⟨Fd, h15.fr hF (by decide) (by decide)⟩, L, h16.fr hF (by decide) (by decide)⟩
theorem isX.args {cy : Nat → ClassId} {ad : Nat → Nat} {n : Nat} {M M' : Nat → va_E} {T : List Nat} {xs : Nat → Arg} {cnt lim : Nat} {O B : List Nat} {fp ot : Int32} (h : isX cy ad n M T xs cnt lim O B fp ot) {xs' : Nat → Arg} {cnt' tk' od' : Nat} (hA : isArgs cy ad n M' xs' cnt' tk' od') (hF : Fr argS M M') : isX cy ad n M' T xs' cnt' lim O B fp ot := by
  obtain ⟨h1, h2, h3, h4, ⟨en, tk, od, p1, p2, p3, p4, ⟨ds, lg, p5⟩, p6, ⟨P7, p7⟩, P8, p8⟩, h6, h7, h8, h9, h10, ⟨w1, w2, w3, h11⟩, ⟨F, h12⟩, h13, ⟨t, i, h14⟩, ⟨Fd, h15⟩, L, h16⟩ := h
  exact ⟨h1, (hF 0 (by decide)).trans h2, h3.fr hF (by decide) (by decide), h4, ⟨en, tk', od', p1, (hF 36 (by decide)).trans p2, p3.fr hF (by decide) (by decide), hA, ⟨ds, lg, p5.fr hF (by decide) (by decide)⟩, p6.fr hF (by decide), ⟨P7, p7.fr hF (by decide) (by decide)⟩, P8, p8.fr hF (by decide) (by decide)⟩, h6, h7, h8.fr hF (by decide) (by decide), h9, h10.fr hF (by decide), ⟨w1, w2, w3, (hF 43 (by decide)).trans h11⟩, ⟨F, h12.fr hF (by decide) (by decide)⟩, (hF 46 (by decide)).trans h13, ⟨t, i, (hF 47 (by decide)).trans h14⟩, ⟨Fd, h15.fr hF (by decide) (by decide)⟩, L, h16.fr hF (by decide) (by decide)⟩
theorem isX.args9 {cy : Nat → ClassId} {ad : Nat → Nat} {n : Nat} {M M' : Nat → va_E} {T : List Nat} {xs : Nat → Arg} {cnt lim : Nat} {O B : List Nat} {fp ot : Int32} (h : isX cy ad n M T xs cnt lim O B fp ot) {xs' : Nat → Arg} {cnt' tk' od' : Nat} (hA : isArgs cy ad n M' xs' cnt' tk' od') (hF : Fr [9] M M') : isX cy ad n M' T xs' cnt' lim O B fp ot := by
  obtain ⟨h1, h2, h3, h4, ⟨en, tk, od, p1, p2, p3, p4, ⟨ds, lg, p5⟩, p6, ⟨P7, p7⟩, P8, p8⟩, h6, h7, h8, h9, h10, ⟨w1, w2, w3, h11⟩, ⟨F, h12⟩, h13, ⟨t, i, h14⟩, ⟨Fd, h15⟩, L, h16⟩ := h
  exact ⟨h1, (hF 0 (by decide)).trans h2, h3.fr hF (by decide) (by decide), h4, ⟨en, tk', od', p1, (hF 36 (by decide)).trans p2, p3.fr hF (by decide) (by decide), hA, ⟨ds, lg, p5.fr hF (by decide) (by decide)⟩, p6.fr hF (by decide), ⟨P7, p7.fr hF (by decide) (by decide)⟩, P8, p8.fr hF (by decide) (by decide)⟩, h6, h7, h8.fr hF (by decide) (by decide), h9, h10.fr hF (by decide), ⟨w1, w2, w3, (hF 43 (by decide)).trans h11⟩, ⟨F, h12.fr hF (by decide) (by decide)⟩, (hF 46 (by decide)).trans h13, ⟨t, i, (hF 47 (by decide)).trans h14⟩, ⟨Fd, h15.fr hF (by decide) (by decide)⟩, L, h16.fr hF (by decide) (by decide)⟩
theorem isX.text {cy : Nat → ClassId} {ad : Nat → Nat} {n : Nat} {M M' : Nat → va_E} {T : List Nat} {xs : Nat → Arg} {cnt lim : Nat} {O B : List Nat} {fp ot : Int32} (h : isX cy ad n M T xs cnt lim O B fp ot) {xs' : Nat → Arg} {cnt' tk' od' : Nat} {T' : List Nat} (hr : isRow cy ad n M' 3 4 80 80 T') (hl : T'.length ≤ 80) (hA : isArgs cy ad n M' xs' cnt' tk' od') (hF : Fr (3 :: argS) M M') : isX cy ad n M' T' xs' cnt' lim O B fp ot := by
  obtain ⟨h1, h2, h3, h4, ⟨en, tk, od, p1, p2, p3, p4, ⟨ds, lg, p5⟩, p6, ⟨P7, p7⟩, P8, p8⟩, h6, h7, h8, h9, h10, ⟨w1, w2, w3, h11⟩, ⟨F, h12⟩, h13, ⟨t, i, h14⟩, ⟨Fd, h15⟩, L, h16⟩ := h
  exact ⟨h1, (hF 0 (by decide)).trans h2, hr, hl, ⟨en, tk', od', p1, (hF 36 (by decide)).trans p2, p3.fr hF (by decide) (by decide), hA, ⟨ds, lg, p5.fr hF (by decide) (by decide)⟩, p6.fr hF (by decide), ⟨P7, p7.fr hF (by decide) (by decide)⟩, P8, p8.fr hF (by decide) (by decide)⟩, h6, h7, h8.fr hF (by decide) (by decide), h9, h10.fr hF (by decide), ⟨w1, w2, w3, (hF 43 (by decide)).trans h11⟩, ⟨F, h12.fr hF (by decide) (by decide)⟩, (hF 46 (by decide)).trans h13, ⟨t, i, (hF 47 (by decide)).trans h14⟩, ⟨Fd, h15.fr hF (by decide) (by decide)⟩, L, h16.fr hF (by decide) (by decide)⟩
theorem isX.page {cy : Nat → ClassId} {ad : Nat → Nat} {n : Nat} {M M' : Nat → va_E} {T : List Nat} {xs : Nat → Arg} {cnt lim : Nat} {O B : List Nat} {fp ot : Int32} (h : isX cy ad n M T xs cnt lim O B fp ot) {lim' : Nat} {O' : List Nat} (hr : isRow cy ad n M' 5 6 2000 lim' O') (hl : O'.length ≤ lim') (hl2 : lim' ≤ 2000) (hF : Fr [5, 6] M M') : isX cy ad n M' T xs cnt lim' O' B fp ot := by
  obtain ⟨h1, h2, h3, h4, ⟨en, tk, od, p1, p2, p3, p4, ⟨ds, lg, p5⟩, p6, ⟨P7, p7⟩, P8, p8⟩, h6, h7, h8, h9, h10, ⟨w1, w2, w3, h11⟩, ⟨F, h12⟩, h13, ⟨t, i, h14⟩, ⟨Fd, h15⟩, L, h16⟩ := h
  exact ⟨h1, (hF 0 (by decide)).trans h2, h3.fr hF (by decide) (by decide), h4, ⟨en, tk, od, p1, (hF 36 (by decide)).trans p2, hr, p4.fr hF (by decide), ⟨ds, lg, p5.fr hF (by decide) (by decide)⟩, p6.fr hF (by decide), ⟨P7, p7.fr hF (by decide) (by decide)⟩, P8, p8.fr hF (by decide) (by decide)⟩, hl, hl2, h8.fr hF (by decide) (by decide), h9, h10.fr hF (by decide), ⟨w1, w2, w3, (hF 43 (by decide)).trans h11⟩, ⟨F, h12.fr hF (by decide) (by decide)⟩, (hF 46 (by decide)).trans h13, ⟨t, i, (hF 47 (by decide)).trans h14⟩, ⟨Fd, h15.fr hF (by decide) (by decide)⟩, L, h16.fr hF (by decide) (by decide)⟩
theorem isX.pageP {cy : Nat → ClassId} {ad : Nat → Nat} {n : Nat} {M M' : Nat → va_E} {T : List Nat} {xs : Nat → Arg} {cnt lim : Nat} {O B : List Nat} {fp ot : Int32} (h : isX cy ad n M T xs cnt lim O B fp ot) {O' : List Nat} (hr : isRow cy ad n M' 5 6 2000 lim O') (hl : O'.length ≤ lim) (hfg : ∃ (ds2 : List Nat) (lg2 : Bool), isFig cy ad n M' 1 2 ds2 lg2) (hF : Fr [1, 2, 5, 6] M M') : isX cy ad n M' T xs cnt lim O' B fp ot := by
  obtain ⟨h1, h2, h3, h4, ⟨en, tk, od, p1, p2, p3, p4, ⟨ds, lg, p5⟩, p6, ⟨P7, p7⟩, P8, p8⟩, h6, h7, h8, h9, h10, ⟨w1, w2, w3, h11⟩, ⟨F, h12⟩, h13, ⟨t, i, h14⟩, ⟨Fd, h15⟩, L, h16⟩ := h
  exact ⟨h1, (hF 0 (by decide)).trans h2, h3.fr hF (by decide) (by decide), h4, ⟨en, tk, od, p1, (hF 36 (by decide)).trans p2, hr, p4.fr hF (by decide), hfg, p6.fr hF (by decide), ⟨P7, p7.fr hF (by decide) (by decide)⟩, P8, p8.fr hF (by decide) (by decide)⟩, hl, h7, h8.fr hF (by decide) (by decide), h9, h10.fr hF (by decide), ⟨w1, w2, w3, (hF 43 (by decide)).trans h11⟩, ⟨F, h12.fr hF (by decide) (by decide)⟩, (hF 46 (by decide)).trans h13, ⟨t, i, (hF 47 (by decide)).trans h14⟩, ⟨Fd, h15.fr hF (by decide) (by decide)⟩, L, h16.fr hF (by decide) (by decide)⟩
theorem isX.pageW {cy : Nat → ClassId} {ad : Nat → Nat} {n : Nat} {M M' : Nat → va_E} {T : List Nat} {xs : Nat → Arg} {cnt lim : Nat} {O B : List Nat} {fp ot : Int32} (h : isX cy ad n M T xs cnt lim O B fp ot) {O' : List Nat} (hr : isRow cy ad n M' 5 6 2000 lim O') (hl : O'.length ≤ lim) (hf4 : ∃ F2 : List Nat, isRow cy ad n M' 44 45 22 22 F2) (hfg : ∃ (ds2 : List Nat) (lg2 : Bool), isFig cy ad n M' 1 2 ds2 lg2) (hw : ∃ a b c : Int32, M' 43 = wdO ad a b c) (hF : Fr [1, 2, 5, 6, 43, 44, 45] M M') : isX cy ad n M' T xs cnt lim O' B fp ot := by
  obtain ⟨h1, h2, h3, h4, ⟨en, tk, od, p1, p2, p3, p4, ⟨ds, lg, p5⟩, p6, ⟨P7, p7⟩, P8, p8⟩, h6, h7, h8, h9, h10, ⟨w1, w2, w3, h11⟩, ⟨F, h12⟩, h13, ⟨t, i, h14⟩, ⟨Fd, h15⟩, L, h16⟩ := h
  exact ⟨h1, (hF 0 (by decide)).trans h2, h3.fr hF (by decide) (by decide), h4, ⟨en, tk, od, p1, (hF 36 (by decide)).trans p2, hr, p4.fr hF (by decide), hfg, p6.fr hF (by decide), ⟨P7, p7.fr hF (by decide) (by decide)⟩, P8, p8.fr hF (by decide) (by decide)⟩, hl, h7, h8.fr hF (by decide) (by decide), h9, h10.fr hF (by decide), hw, hf4, (hF 46 (by decide)).trans h13, ⟨t, i, (hF 47 (by decide)).trans h14⟩, ⟨Fd, h15.fr hF (by decide) (by decide)⟩, L, h16.fr hF (by decide) (by decide)⟩
theorem isX.bytes {cy : Nat → ClassId} {ad : Nat → Nat} {n : Nat} {M M' : Nat → va_E} {T : List Nat} {xs : Nat → Arg} {cnt lim : Nat} {O B : List Nat} {fp ot : Int32} (h : isX cy ad n M T xs cnt lim O B fp ot) {B' : List Nat} (hr : isRow cy ad n M' 7 8 256 256 B') (hl : B'.length ≤ 256) (hF : Fr [7, 8] M M') : isX cy ad n M' T xs cnt lim O B' fp ot := by
  obtain ⟨h1, h2, h3, h4, ⟨en, tk, od, p1, p2, p3, p4, ⟨ds, lg, p5⟩, p6, ⟨P7, p7⟩, P8, p8⟩, h6, h7, h8, h9, h10, ⟨w1, w2, w3, h11⟩, ⟨F, h12⟩, h13, ⟨t, i, h14⟩, ⟨Fd, h15⟩, L, h16⟩ := h
  exact ⟨h1, (hF 0 (by decide)).trans h2, h3.fr hF (by decide) (by decide), h4, ⟨en, tk, od, p1, (hF 36 (by decide)).trans p2, p3.fr hF (by decide) (by decide), p4.fr hF (by decide), ⟨ds, lg, p5.fr hF (by decide) (by decide)⟩, p6.fr hF (by decide), ⟨P7, p7.fr hF (by decide) (by decide)⟩, P8, p8.fr hF (by decide) (by decide)⟩, h6, h7, hr, hl, h10.fr hF (by decide), ⟨w1, w2, w3, (hF 43 (by decide)).trans h11⟩, ⟨F, h12.fr hF (by decide) (by decide)⟩, (hF 46 (by decide)).trans h13, ⟨t, i, (hF 47 (by decide)).trans h14⟩, ⟨Fd, h15.fr hF (by decide) (by decide)⟩, L, h16.fr hF (by decide) (by decide)⟩
theorem isX.back {cy : Nat → ClassId} {ad : Nat → Nat} {n : Nat} {M M' : Nat → va_E} {T : List Nat} {xs : Nat → Arg} {cnt lim : Nat} {O B : List Nat} {fp ot : Int32} (h : isX cy ad n M T xs cnt lim O B fp ot) {B' : List Nat} {fp' : Int32} (h0 : M' 0 = fdO ad fp' ot) (hr : isRow cy ad n M' 7 8 256 256 B') (hl : B'.length ≤ 256) (h47 : ∃ t i : Nat, M' 47 = rdO ad (nI t) (nI i)) (h48 : ∃ Fd2 : List Nat, isRow cy ad n M' 48 49 256 256 Fd2) (h50 : ∃ L2 : List Nat, isRow cy ad n M' 50 51 32 32 L2) (hF : Fr [0, 7, 8, 47, 48, 49, 50, 51] M M') : isX cy ad n M' T xs cnt lim O B' fp' ot := by
  obtain ⟨h1, h2, h3, h4, ⟨en, tk, od, p1, p2, p3, p4, ⟨ds, lg, p5⟩, p6, ⟨P7, p7⟩, P8, p8⟩, h6, h7, h8, h9, h10, ⟨w1, w2, w3, h11⟩, ⟨F, h12⟩, h13, ⟨t, i, h14⟩, ⟨Fd, h15⟩, L, h16⟩ := h
  exact ⟨h1, h0, h3.fr hF (by decide) (by decide), h4, ⟨en, tk, od, p1, (hF 36 (by decide)).trans p2, p3.fr hF (by decide) (by decide), p4.fr hF (by decide), ⟨ds, lg, p5.fr hF (by decide) (by decide)⟩, p6.fr hF (by decide), ⟨P7, p7.fr hF (by decide) (by decide)⟩, P8, p8.fr hF (by decide) (by decide)⟩, h6, h7, hr, hl, h10.fr hF (by decide), ⟨w1, w2, w3, (hF 43 (by decide)).trans h11⟩, ⟨F, h12.fr hF (by decide) (by decide)⟩, (hF 46 (by decide)).trans h13, h47, h48, h50⟩
theorem isX.print {cy : Nat → ClassId} {ad : Nat → Nat} {n : Nat} {M M' : Nat → va_E} {T : List Nat} {xs : Nat → Arg} {cnt lim : Nat} {O B : List Nat} {fp ot : Int32} (h : isX cy ad n M T xs cnt lim O B fp ot) {O' : List Nat} {fp' ot' : Int32} (h0 : M' 0 = fdO ad fp' ot') (hps : ∃ (e2 : Bool) (tk2 od2 : Nat), isPS cy ad n M' e2 lim O' xs cnt tk2 od2) (hl : O'.length ≤ lim) (hdi : isDir M') (hF : Fr (0 :: prtS) M M') : isX cy ad n M' T xs cnt lim O' B fp' ot' := by
  obtain ⟨h1, h2, h3, h4, ⟨en, tk, od, p1, p2, p3, p4, ⟨ds, lg, p5⟩, p6, ⟨P7, p7⟩, P8, p8⟩, h6, h7, h8, h9, h10, ⟨w1, w2, w3, h11⟩, ⟨F, h12⟩, h13, ⟨t, i, h14⟩, ⟨Fd, h15⟩, L, h16⟩ := h
  exact ⟨h1, h0, h3.fr hF (by decide) (by decide), h4, hps, hl, h7, h8.fr hF (by decide) (by decide), h9, hdi, ⟨w1, w2, w3, (hF 43 (by decide)).trans h11⟩, ⟨F, h12.fr hF (by decide) (by decide)⟩, (hF 46 (by decide)).trans h13, ⟨t, i, (hF 47 (by decide)).trans h14⟩, ⟨Fd, h15.fr hF (by decide) (by decide)⟩, L, h16.fr hF (by decide) (by decide)⟩
theorem isX.ex {cy : Nat → ClassId} {ad ad' : Nat → Nat} {n n' : Nat} {M M' : Nat → va_E} {T : List Nat} {xs : Nat → Arg} {cnt lim : Nat} {O B : List Nat} {fp ot : Int32} (h : isX cy ad n M T xs cnt lim O B fp ot) (he : Ex n ad ad') (hn : n ≤ n') (hk : ∀ k, k < 52 → M' k = M k) : isX cy ad' n' M' T xs cnt lim O B fp ot := by
  obtain ⟨h1, h2, h3, h4, ⟨en, tk, od, p1, p2, p3, p4, ⟨ds, lg, p5⟩, p6, ⟨P7, p7⟩, P8, p8⟩, h6, h7, h8, h9, h10, ⟨w1, w2, w3, h11⟩, ⟨F, h12⟩, h13, ⟨t, i, h14⟩, ⟨Fd, h15⟩, L, h16⟩ := h
  have hq : ∀ (a b : Nat), a < 52 → b < 52 → ∀ k ∈ [a, b], M' k = M k := fun a b ha hb k hq => by
    simp only [List.mem_cons, List.not_mem_nil, or_false] at hq
    exact hk k (by omega)
  refine ⟨by omega, ?_, h3.ex he hn (hq 3 4 (by decide) (by decide)), h4, ⟨en, tk, od, by omega, ?_, p3.ex he hn (hq 5 6 (by decide) (by decide)), p4.ex he hn (fun k h9 => hk k (by have := mem_argS.mp h9; omega)), ⟨ds, lg, p5.ex he hn (hq 1 2 (by decide) (by decide))⟩, ?_, ⟨P7, p7.ex he hn (hq 39 40 (by decide) (by decide))⟩, P8, p8.ex he hn (hq 41 42 (by decide) (by decide))⟩, h6, h7, h8.ex he hn (hq 7 8 (by decide) (by decide)), h9, ?_, ⟨w1, w2, w3, ?_⟩, ⟨F, h12.ex he hn (hq 44 45 (by decide) (by decide))⟩, ?_, ⟨t, i, ?_⟩, ⟨Fd, h15.ex he hn (hq 48 49 (by decide) (by decide))⟩, L, h16.ex he hn (hq 50 51 (by decide) (by decide))⟩
  · rw [hk 0 (by decide), h2]
    unfold fdO
    rw [he 3 (by omega), he 5 (by omega), he 7 (by omega), he 9 (by omega), he 36 (by omega), he 43 (by omega), he 46 (by omega), he 47 (by omega)]
  · rw [hk 36 (by decide), p2]
    unfold prO
    rw [he 5 (by omega), he 9 (by omega), he 1 (by omega), he 37 (by omega), he 38 (by omega), he 39 (by omega), he 41 (by omega)]
  · obtain ⟨a, b, e⟩ := p6
    exact ⟨a, b, (hk 37 (by decide)).trans e⟩
  · obtain ⟨a1, a2, a3, a4, a5, a6, a7, a8, a9, b1, b2, b3, e⟩ := h10
    exact ⟨a1, a2, a3, a4, a5, a6, a7, a8, a9, b1, b2, b3, (hk 38 (by decide)).trans e⟩
  · rw [hk 43 (by decide), h11]
    unfold wdO
    rw [he 5 (by omega), he 7 (by omega), he 1 (by omega), he 44 (by omega)]
  · rw [hk 46 (by decide), h13]
    unfold pdO
    rw [he 5 (by omega), he 7 (by omega), he 1 (by omega)]
  · rw [hk 47 (by decide), h14]
    unfold rdO
    rw [he 5 (by omega), he 48 (by omega), he 50 (by omega)]
theorem pgO_le (lim : Nat) (O : List Nat) : (pgO lim O).length ≤ lim := by
  unfold pgO
  split
  · exact Nat.zero_le _
  · omega
theorem ptO_le {T : List Nat} {xs : Nat → Arg} {cnt lim : Nat} {O : List Nat} (h : O.length ≤ lim) : (ptO T xs cnt lim O).length ≤ lim := by
  unfold ptO
  split
  · exact pgO_le _ _
  · exact h
theorem bkB_le {O : List Nat} {x g : Int32} {B : List Nat} (h : B.length ≤ 256) : (bkB O x g B).length ≤ 256 := by
  unfold bkB
  split
  · exact h
  · split
    · exact h
    · omega
