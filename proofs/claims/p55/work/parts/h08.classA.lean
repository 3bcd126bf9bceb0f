theorem FR_out {cy : Nat → ClassId} {s o pr un hs : Nat} {e1 e2 : Int32} {fc : Nat → Nat} {SC OB : va_W} {sn : SV} {AD : Nat → Nat → Nat} {VS : Nat → SV} {S : AS} (h : FR cy s o pr un hs e1 e2 fc SC OB sn AD VS S) {q m ml c : Nat} {g : Nat → Nat} {t : List Nat} (hs9 : SBp m c g t) (hc : c ≤ 70) :
    FR cy s o pr un hs e1 e2 fc SC (wSB cy o q m ml c g) sn AD VS (aOut S t) := by
  obtain ⟨h1, h2, h3, h4, h5, h6, h7⟩ := h
  exact ⟨h1, h2, h3, h4, ⟨q, m, ml, c, g, rfl, hs9, hc⟩, h6, h7⟩
theorem FR_scr {cy : Nat → ClassId} {s o pr un hs : Nat} {e1 e2 : Int32} {fc : Nat → Nat} {SC OB : va_W} {sn : SV} {AD : Nat → Nat → Nat} {VS : Nat → SV} {S : AS} (h : FR cy s o pr un hs e1 e2 fc SC OB sn AD VS S) {nq t q m ml c ct po co : Nat} {g nb : Nat → Nat} {tx : List Nat} (hs9 : SBp m c g tx) (hc : c ≤ 60) :
    FR cy s o pr un hs e1 e2 fc (wScr cy s nq t q m ml c g nb ct po co) OB sn AD VS (aBuf S tx) := by
  obtain ⟨h1, h2, h3, h4, h5, h6, h7⟩ := h
  exact ⟨h1, h2, h3, ⟨nq, t, q, m, ml, c, ct, po, co, g, nb, rfl, hs9, hc⟩, h5, h6, h7⟩
theorem FR_e {cy : Nat → ClassId} {s o pr un hs : Nat} {e1 e2 x y : Int32} {fc : Nat → Nat} {SC OB : va_W} {sn : SV} {AD : Nat → Nat → Nat} {VS : Nat → SV} {S : AS} (h : FR cy s o pr un hs e1 e2 fc SC OB sn AD VS S) :
    FR cy s o pr un hs x y fc SC OB sn AD VS (S.1, S.2.1, S.2.2.1, S.2.2.2.1, S.2.2.2.2.1, x, y) := by
  obtain ⟨h1, h2, h3, h4, h5, h6, h7⟩ := h
  exact ⟨h1, h2, h3, h4, h5, rfl, rfl⟩
theorem BF_ob {cy : Nat → ClassId} {f fa s o pr un hs : Nat} {an : Nat → Nat} {e1 e2 : Int32} {fc : Nat → Nat} {SC OB : va_W} {sn : SV} {AD : Nat → Nat → Nat} {VS : Nat → SV} {i : Nat} (hi : i < 8) : (wBF cy f fa s o an pr un hs e1 e2 fc SC OB sn AD VS).Perm ((OB ++ wBat cy (AD 0 (15 + i)) (AD 0 (23 + i)) (VS 0 (13 + i)) (VS 0 (21 + i))) ++ ((wSt0 cy (AD 0) (VS 0) ++ wRest 8 i (wStB cy (AD 0) (VS 0))) ++ (((wBFl cy f fa s o an pr un hs e1 e2 fc SC OB sn AD VS).eraseIdx 13).eraseIdx 1).flatten)) := by
  have h1 : (wBF cy f fa s o an pr un hs e1 e2 fc SC OB sn AD VS).Perm ((OB ++ wSt cy (AD 0) (VS 0)) ++ (((wBFl cy f fa s o an pr un hs e1 e2 fc SC OB sn AD VS).eraseIdx 13).eraseIdx 1).flatten) := fl_out2 (bs := wBFl cy f fa s o an pr un hs e1 e2 fc SC OB sn AD VS) 13 1 rfl rfl
  refine h1.trans ?_
  generalize (((wBFl cy f fa s o an pr un hs e1 e2 fc SC OB sn AD VS).eraseIdx 13).eraseIdx 1).flatten = R
  have h2 := wSt_split (cy := cy) (ad := AD 0) (v := VS 0) hi
  have h3 := List.Perm.append_right R (List.Perm.append_left OB h2)
  refine h3.trans ?_
  rw [← List.append_assoc OB, List.append_assoc (OB ++ _)]
  exact List.Perm.refl _