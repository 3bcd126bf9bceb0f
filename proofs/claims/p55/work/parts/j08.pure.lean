/-! ===== scripts and single calls: pure ===== -/
def IFB (K : Nat) (v : SV) : Prop := Inv K v ∧ FB v
theorem run_ok {S : AS} {q : Nat} {cs : List (Nat × List Nat)} {w : SV} (e : scr S = (false, q, cs)) (hr : rnC cs S.1 0 = (none, w)) : qRun S = nI cs.length ∧ aRun S = (w, (S.1 :: S.2.1).take 8, S.2.2.1, [], S.2.2.2.2) := by
  unfold qRun aRun
  rw [e]
  dsimp only
  rw [hr]
  exact ⟨rfl, rfl⟩
theorem run_no {S : AS} {q i : Nat} {cs : List (Nat × List Nat)} {w : SV} (e : scr S = (false, q, cs)) (hr : rnC cs S.1 0 = (some i, w)) : qRun S = -3 ∧ aRun S = aF S (nI i) := by
  unfold qRun aRun
  rw [e]
  dsimp only
  rw [hr]
  exact ⟨rfl, rfl⟩
theorem tol_ok {v : SV} {x : Nat} (hx : x ≤ 99) : (oTol v (nI x)).1 = nI (v 0 2) := by
  unfold oTol
  rw [if_pos (by rw [nI_I (by omega)]; omega)]
theorem step_ok {v : SV} {x : Nat} (hx : 1 ≤ x ∧ x ≤ 5) : (oStep v (nI x)).1 = nI (v 0 3) := by
  unfold oStep
  rw [if_pos (by rw [nI_I (by omega)]; omega)]
theorem reset_ok {v : SV} {x : Nat} (hx : x < v 0 1) (h4 : v 0 1 < 1000) : (oReset v (nI x)).1 = nI (v 2 x) := by
  unfold oReset
  rw [if_pos ((inR_nI (by omega)).mpr hx), tn_nI (by omega)]
theorem nneg {n : Nat} {x : Int32} (h : x = nI n) (hn : n < 2147483648) : ¬ x.toInt < 0 := by
  rw [h, nI_I hn]
  omega
/-! x and y: the foundry of the script's ints -/
def XS (v0 v : SV) (us : List SV) (b : List Nat) (e1 e2 : Int32) : AS := (v, us, some v0, b, [], e1, e2)
def YS (v : SV) (us : List SV) : AS := (v, us, none, [], [], -1, -1)
def v1x (v : SV) : SV := (oTol v (nI 7)).2
def v2x (v : SV) : SV := (oStep (v1x v) (nI 5)).2
def v3x (v : SV) : SV := (oReset (v2x v) (nI 1)).2
def v4x (v : SV) : SV := (oReset (v3x v) (nI 0)).2
theorem v1_1 {v : SV} : v1x v 0 1 = v 0 1 := Kp_tol.2
theorem v2_1 {v : SV} : v2x v 0 1 = v 0 1 := Kp_step.2.trans v1_1
theorem v3_1 {v : SV} : v3x v 0 1 = v 0 1 := Kp_reset.2.trans v2_1
section XSS
variable {K : Nat} {v0 v : SV} {us : List SV} {b : List Nat} {e1 e2 : Int32}
theorem IF_tol {x : Int32} (h : IFB K v) : IFB (K + 1) (oTol v x).2 := ⟨oTol_inv h.1, oTol_fb h.2⟩
theorem IF_step {x : Int32} (h : IFB K v) : IFB (K + 1) (oStep v x).2 := ⟨oStep_inv h.1, oStep_fb h.2⟩
theorem IF_reset {x : Int32} (h : IFB K v) : IFB (K + 1) (oReset v x).2 := ⟨oReset_inv h.1, oReset_fb h.2⟩
theorem IF_mix {x y z : Int32} (h : IFB K v) : IFB (K + 1) (oMix v x y z).2 := ⟨oMix_inv h.1, oMix_fb h.2 h.1.1⟩
theorem IF_mould {x : Int32} (h : IFB K v) : IFB (K + 1) (oMould v x).2 := ⟨oMould_inv h.1, oMould_fb h.2⟩
theorem IF_buy {x y : Int32} (h : IFB K v) : IFB (K + 1) (oBuy v x y).2 := ⟨oBuy_inv h.1, oBuy_fb h.2⟩
theorem IF_pour {x y z : Int32} (h : IFB K v) (hK : K < 100000) : IFB (K + 1) (oPour v x y z).2 := ⟨oPour_inv h.1 hK, oPour_fb h.2⟩
theorem IF_exam {x : Int32} (h : IFB K v) (hK : K < 100000) : IFB (K + 1) (oExam v x).2 := ⟨oExam_inv h.1 hK, oExam_fb h.2 h.1.1⟩
theorem IF_melt {x : Int32} (h : IFB K v) (hK : K < 100000) : IFB (K + 1) (oMelt v x).2 := ⟨oMelt_inv h.1 hK, oMelt_fb h.2 h.1.1⟩
theorem IFB.up {J : Nat} (h : IFB K v) (hj : K ≤ J) : IFB J v := ⟨h.1.mono hj, h.2⟩
theorem IF_v (h : IFB K v) : IFB (K + 4) (v1x v) ∧ IFB (K + 4) (v2x v) ∧ IFB (K + 4) (v3x v) ∧ IFB (K + 4) (v4x v) :=
  ⟨(IF_tol h).up (by omega), (IF_step (IF_tol h)).up (by omega), (IF_reset (IF_step (IF_tol h))).up (by omega), IF_reset (IF_reset (IF_step (IF_tol h)))⟩
theorem AJ_of {sn : Option SV} (h1 : IFB K v) (hu : ∀ x ∈ us, IFB K x) (hs : ∀ x, sn = some x → IFB K x) (hb : ∀ c ∈ b, c < 127) (he1 : e1 = -1 ∨ 0 ≤ e1.toInt) (he2 : e2 = -1 ∨ 0 ≤ e2.toInt) : AJ K ((v, us, sn, b, [], e1, e2) : AS) :=
  ⟨⟨h1, hu, hs, hb⟩, fun c hc => absurd hc List.not_mem_nil, he1, he2⟩
end XSS
section XSR
variable {v0 v : SV} {us : List SV} {e1 e2 : Int32}
theorem oC_7 {v : SV} {x : Nat} : oC (7, [x]) v = oTol v (nI x) := rfl
theorem oC_8 {v : SV} {x : Nat} : oC (8, [x]) v = oStep v (nI x) := rfl
theorem oC_6 {v : SV} {x : Nat} : oC (6, [x]) v = oReset v (nI x) := rfl
theorem xs_run0 (h : v 0 1 = 2) (hw : Wf v) : qRun (XS v0 v us (ltx 0) e1 e2) = nI 4 ∧ aRun (XS v0 v us (ltx 0) e1 e2) = XS v0 (v4x v) ((v :: us).take 8) [] e1 e2 := by
  have hs : pall (ltx 0) 61 0 = (false, 30, [(7, [7]), (8, [5]), (6, [1]), (6, [0])]) := by decide +kernel
  have hr : rnC [(7, [7]), (8, [5]), (6, [1]), (6, [0])] v 0 = (none, v4x v) := by
    obtain ⟨-, -, -, ⟨w1, w2⟩, w3, -, -, -, wL, -⟩ := hw
    have a := (wL 1 (by omega)).2
    have b := (wL 0 (by omega)).2
    have q1 : v1x v 0 1 = 2 := v1_1.trans h
    have q2 : v2x v 0 1 = 2 := v2_1.trans h
    have q3 : v3x v 0 1 = 2 := v3_1.trans h
    have n1 : (oC (7, [7]) v).1 = nI (v 0 2) := by rw [oC_7]; exact tol_ok (by decide)
    have n2 : (oC (8, [5]) (v1x v)).1 = nI (v1x v 0 3) := by rw [oC_8]; exact step_ok (by decide)
    have n3 : (oC (6, [1]) (v2x v)).1 = nI (v2x v 2 1) := by rw [oC_6]; exact reset_ok (by omega) (by omega)
    have n4 : (oC (6, [0]) (v3x v)).1 = nI (v3x v 2 0) := by rw [oC_6]; exact reset_ok (by omega) (by omega)
    have r3 : v1x v 0 3 = v 0 3 := by
      unfold v1x oTol
      rw [if_pos (by decide)]
      dsimp only
      rw [up2_at (by decide)]
    have s2 : v2x v 2 = v 2 := by
      unfold v2x v1x oTol oStep
      rw [if_pos (by decide), if_pos (by decide)]
      dsimp only
      rw [up2_ne (by decide), up2_ne (by decide)]
    have s3 : v3x v 2 0 = v 2 0 := by
      unfold v3x oReset
      rw [if_pos ((inR_nI (by decide)).mpr (by omega)), tn_nI (by decide)]
      dsimp only
      rw [up2_at (by decide), s2]
    rw [rnC_on (nneg n1 (by omega))]
    show rnC _ (v1x v) _ = _
    rw [rnC_on (nneg n2 (by omega))]
    show rnC _ (v2x v) _ = _
    rw [rnC_on (nneg n3 (by rw [s2]; omega))]
    show rnC _ (v3x v) _ = _
    rw [rnC_on (nneg n4 (by omega))]
    rfl
  exact run_ok (S := XS v0 v us (ltx 0) e1 e2) hs hr
theorem xs_run1 (h : v 0 1 = 2) (hw : Wf v) : qRun (XS v0 v us (ltx 1) e1 e2) = -3 ∧ aRun (XS v0 v us (ltx 1) e1 e2) = XS v0 v us [] e1 (nI 1) := by
  have hs : pall (ltx 1) 61 0 = (false, 14, [(6, [0]), (8, [6])]) := by decide +kernel
  have hr : rnC [(6, [0]), (8, [6])] v 0 = (some 1, (oStep (oReset v (nI 0)).2 (nI 6)).2) := by
    have b := (hw.2.2.2.2.2.2.2.2.1 0 (by omega)).2
    rw [rnC_on (nneg (show (oC (6, [0]) v).1 = nI (v 2 0) by rw [oC_6]; exact reset_ok (by omega) (by omega)) (by omega))]
    have n2 : (oC (8, [6]) (oReset v (nI 0)).2).1 = -2 := by
      show (oStep _ (nI 6)).1 = -2
      unfold oStep
      rw [if_neg (by decide)]
    rw [rnC_no (show (oC (8, [6]) (oC (6, [0]) v).2).1.toInt < 0 by rw [oC_6, n2]; decide)]
    rfl
  exact run_no (S := XS v0 v us (ltx 1) e1 e2) hs hr
theorem xs_run2 : qRun (XS v0 v us (ltx 2) e1 e2) = -3 ∧ aRun (XS v0 v us (ltx 2) e1 e2) = XS v0 v us [] e1 (nI 0) := by
  have hs : pall (ltx 2) 61 0 = (false, 9, [(0, [0, 0, 0])]) := by decide +kernel
  have n1 : (oC (0, [0, 0, 0]) v).1 = -2 := by
    show (oMix v (nI 0) (nI 0) (nI 0)).1 = -2
    unfold oMix
    rw [if_neg (by decide)]
  have hr : rnC [(0, [0, 0, 0])] v 0 = (some 0, (oC (0, [0, 0, 0]) v).2) := rnC_no (by rw [n1]; decide)
  exact run_no (S := XS v0 v us (ltx 2) e1 e2) hs hr
theorem lf_3 : (pall (ltx 3) 61 0).1 = true ∧ (pall (ltx 3) 61 0).2.1 = 1 := by decide +kernel
theorem lf_4 : (pall (ltx 4) 61 0).1 = true ∧ (pall (ltx 4) 61 0).2.1 = 8 := by decide +kernel
theorem lf_5 : (pall (ltx 5) 61 0).1 = true ∧ (pall (ltx 5) 61 0).2.1 = 8 := by decide +kernel
theorem lf_6 : (pall (ltx 6) 61 0).1 = true ∧ (pall (ltx 6) 61 0).2.1 = 8 := by decide +kernel
theorem lf_7 : (pall (ltx 7) 61 0).1 = true ∧ (pall (ltx 7) 61 0).2.1 = 7 := by decide +kernel
theorem lf_8 : (pall (ltx 8) 61 0).1 = true ∧ (pall (ltx 8) 61 0).2.1 = 0 := by decide +kernel
theorem lf_9 : (pall (ltx 9) 61 0).1 = true ∧ (pall (ltx 9) 61 0).2.1 = 7 := by decide +kernel
theorem lf_10 : (pall (ltx 10) 61 0).1 = true ∧ (pall (ltx 10) 61 0).2.1 = 1 := by decide +kernel
theorem lf_11 : (pall (ltx 11) 61 0).1 = true ∧ (pall (ltx 11) 61 0).2.1 = 9 := by decide +kernel
theorem lf_12 : (pall (ltx 12) 61 0).1 = true ∧ (pall (ltx 12) 61 0).2.1 = 4 := by decide +kernel
theorem lf_13 : (pall (ltx 13) 61 0).1 = true ∧ (pall (ltx 13) 61 0).2.1 = 0 := by decide +kernel
theorem und {w v : SV} {us : List SV} {r : Option SV × List Nat × List Nat × Int32 × Int32} {n : Nat} : aUndo ((w, (v :: us).take (n + 1), r) : AS) = (v, us.take n, r) ∧ qUndo ((w, (v :: us).take (n + 1), r) : AS) = nI (us.take n).length := ⟨rfl, rfl⟩
theorem tk {us : List SV} {n m : Nat} (h : n ≤ m) : (us.take m).take n = us.take n := by rw [List.take_take, Nat.min_eq_left h]
end XSR
/-! z: a small foundry of its own, in sixteen kinds -/
def ZS (v : SV) (us : List SV) (b : List Nat) : AS := (v, us, none, b, [], -1, -1)
def tz (p l : Nat) : List Nat := (((([] ++ ltx 14) ++ dgs p) ++ ltx 15) ++ dgs l) ++ ltx 16
def qz (p l : Nat) : Nat := 7 * p + 6 + 5 * l
def za (p l : Nat) : SV := (oMix vIni (nI p) (nI 0) (nI 2)).2
def zb (p l : Nat) : SV := (oMould (za p l) (nI l)).2
def zc (p l : Nat) : SV := (oBuy (zb p l) (nI 0) (nI 40)).2
def zd (p l : Nat) : SV := (oBuy (zc p l) (nI 2) (nI 20)).2
def z1 (p l : Nat) : SV := (oPour (zd p l) (nI 0) (nI 0) (nI 4)).2
def z2 (p l : Nat) : SV := (oTol (z1 p l) (nI (qz p l % 100))).2
def z3 (p l : Nat) : SV := (oStep (z2 p l) (nI 5)).2
def z4 (p l : Nat) : SV := (oStep (z3 p l) (nI 2)).2
def z5 (p l : Nat) : SV := (oExam (z4 p l) (nI 0)).2
def z6 (p l : Nat) : SV := (oMelt (z5 p l) (nI 0)).2
def z7 (p l : Nat) : SV := (oPour (z6 p l) (nI 0) (nI 0) (nI 1)).2
def z8 (p l : Nat) : SV := (oTol (z7 p l) (nI 99)).2
def z9 (p l : Nat) : SV := (oExam (z8 p l) (nI 1)).2
def za10 (p l : Nat) : SV := (oReset (z9 p l) (nI 0)).2
/-- how many of the first n bows are good -/
def gz (q : Nat) : Nat → Nat
  | 0 => 0
  | k + 1 => gz q k + if (q + 13 * k) % 100 ≤ q % 100 then 1 else 0
theorem gz_le {q : Nat} : ∀ k, gz q k ≤ k
  | 0 => Nat.le_refl _
  | k + 1 => by
    have := gz_le (q := q) k
    unfold gz
    split <;> omega
set_option maxRecDepth 100000 in
theorem zt1 : ∀ p, p < 4 → ∀ l, l < 4 → (tz (p + 1) (l + 1)).all (fun x => decide (32 ≤ x) && decide (x ≤ 126)) = true := by decide +kernel
set_option maxRecDepth 100000 in
theorem zt2 : ∀ p, p < 4 → ∀ l, l < 4 → (tz (p + 1) (l + 1)).length = 46 := by decide +kernel
theorem zt3 : ∀ p, p < 4 → ∀ l, l < 4 → pall (tz (p + 1) (l + 1)) 61 0 = ((false, 46, [(0, [p + 1, 0, 2]), (1, [l + 1]), (2, [0, 40]), (2, [2, 20]), (3, [0, 0, 4])]) : Bool × Nat × List (Nat × List Nat))
  | 0, _, 0, _ => by decide +kernel
  | 0, _, 1, _ => by decide +kernel
  | 0, _, 2, _ => by decide +kernel
  | 0, _, 3, _ => by decide +kernel
  | 1, _, 0, _ => by decide +kernel
  | 1, _, 1, _ => by decide +kernel
  | 1, _, 2, _ => by decide +kernel
  | 1, _, 3, _ => by decide +kernel
  | 2, _, 0, _ => by decide +kernel
  | 2, _, 1, _ => by decide +kernel
  | 2, _, 2, _ => by decide +kernel
  | 2, _, 3, _ => by decide +kernel
  | 3, _, 0, _ => by decide +kernel
  | 3, _, 1, _ => by decide +kernel
  | 3, _, 2, _ => by decide +kernel
  | 3, _, 3, _ => by decide +kernel
  | p + 4, h, _, _ => absurd h (by omega)
  | _, _, l + 4, h => absurd h (by omega)
set_option maxRecDepth 100000 in
theorem zr : ∀ p, p < 4 → ∀ l, l < 4 → (oMix vIni (nI (p + 1)) (nI 0) (nI 2)).1 = nI 0 ∧ (oMould (za (p + 1) (l + 1)) (nI (l + 1))).1 = nI 0 ∧ (oBuy (zb (p + 1) (l + 1)) (nI 0) (nI 40)).1 = nI 40 ∧ (oBuy (zc (p + 1) (l + 1)) (nI 2) (nI 20)).1 = nI 20 ∧ (oPour (zd (p + 1) (l + 1)) (nI 0) (nI 0) (nI 4)).1 = nI 0 := by decide +kernel
set_option maxRecDepth 100000 in
theorem zf1 : ∀ p, p < 4 → ∀ l, l < 4 → qAt (z1 (p + 1) (l + 1)) (nI 0) = nI 0 ∧ qBat (bNum 2) (z1 (p + 1) (l + 1)) (nI 0) = nI 4 ∧ qSqk (z1 (p + 1) (l + 1)) (nI 0) = nI ((qz (p + 1) (l + 1)) % 100) ∧ qSqk (z1 (p + 1) (l + 1)) (nI 3) = nI (((qz (p + 1) (l + 1)) + 39) % 100) ∧ qMld 2 (z1 (p + 1) (l + 1)) (nI 0) = nI 4 ∧ qMet 3 (z1 (p + 1) (l + 1)) (nI 0) = nI (40 - 4 * (p + 1)) := by decide +kernel
set_option maxRecDepth 100000 in
theorem zf2 : ∀ p, p < 4 → ∀ l, l < 4 → qMet 3 (z1 (p + 1) (l + 1)) (nI 1) = nI 0 ∧ qMet 3 (z1 (p + 1) (l + 1)) (nI 2) = nI 12 ∧ qPos (z1 (p + 1) (l + 1)) (nI 0) = nI 6 ∧ qNxt (z1 (p + 1) (l + 1)) (nI 0) (nI 0) = nI (((qz (p + 1) (l + 1)) + 52) % 100) ∧ qMib (z1 (p + 1) (l + 1)) (nI 2) = nI 8 ∧ (oPour (z1 (p + 1) (l + 1)) (nI 0) (nI 0) (nI 7)).1 = -4 ∧ (oPour (z1 (p + 1) (l + 1)) (nI 0) (nI 0) (nI 10)).1 = -2 := by decide +kernel
set_option maxRecDepth 100000 in
theorem zf3 : ∀ p, p < 4 → ∀ l, l < 4 → (z1 (p + 1) (l + 1)) 0 2 = 50 ∧ qBat bSam (z2 (p + 1) (l + 1)) (nI 0) = nI 2 ∧ plc (z2 (p + 1) (l + 1)) (nI 0).toInt < z2 (p + 1) (l + 1) 0 4 ∧ ¬ pas (z2 (p + 1) (l + 1) (21 + plc (z2 (p + 1) (l + 1)) (nI 0).toInt)) (z2 (p + 1) (l + 1) (13 + plc (z2 (p + 1) (l + 1)) (nI 0).toInt) 2) (z2 (p + 1) (l + 1) 0 3) (z2 (p + 1) (l + 1) 0 2) ∧ lps (z2 (p + 1) (l + 1) (21 + plc (z2 (p + 1) (l + 1)) (nI 0).toInt)) (z2 (p + 1) (l + 1) (13 + plc (z2 (p + 1) (l + 1)) (nI 0).toInt) 2) (z2 (p + 1) (l + 1) 0 3) (z2 (p + 1) (l + 1) (13 + plc (z2 (p + 1) (l + 1)) (nI 0).toInt) 2) = max ((qz (p + 1) (l + 1)) % 100) (((qz (p + 1) (l + 1)) + 26) % 100) := by decide +kernel
set_option maxRecDepth 100000 in
theorem zf4 : ∀ p, p < 4 → ∀ l, l < 4 → (z2 (p + 1) (l + 1)) 0 3 = 2 ∧ qBat bSam (z3 (p + 1) (l + 1)) (nI 0) = nI 1 ∧ plc (z3 (p + 1) (l + 1)) (nI 0).toInt < z3 (p + 1) (l + 1) 0 4 ∧ pas (z3 (p + 1) (l + 1) (21 + plc (z3 (p + 1) (l + 1)) (nI 0).toInt)) (z3 (p + 1) (l + 1) (13 + plc (z3 (p + 1) (l + 1)) (nI 0).toInt) 2) (z3 (p + 1) (l + 1) 0 3) (z3 (p + 1) (l + 1) 0 2) ∧ z3 (p + 1) (l + 1) 0 3 = 5 ∧ qBat bGood (z4 (p + 1) (l + 1)) (nI 0) = nI (gz (qz (p + 1) (l + 1)) 4) ∧ (oExam (z4 (p + 1) (l + 1)) (nI 0)).1 = nI 0 := by decide +kernel
set_option maxRecDepth 100000 in
theorem zf5 : ∀ p, p < 4 → ∀ l, l < 4 → qBat (bNum 4) (z5 (p + 1) (l + 1)) (nI 0) = nI 1 ∧ (oExam (z5 (p + 1) (l + 1)) (nI 0)).1 = -3 ∧ (oMelt (z5 (p + 1) (l + 1)) (nI 0)).1 = nI (4 * ((p + 1) - 1) + 4) := by decide +kernel
set_option maxRecDepth 100000 in
theorem zf6 : ∀ p, p < 4 → ∀ l, l < 4 → qMet 3 (z6 (p + 1) (l + 1)) (nI 2) = nI 16 ∧ qMet 6 (z6 (p + 1) (l + 1)) (nI 2) = nI 4 ∧ qMet 6 (z6 (p + 1) (l + 1)) (nI 1) = nI 0 ∧ qMet 6 (z6 (p + 1) (l + 1)) (nI 0) = nI 4 ∧ z6 (p + 1) (l + 1) 0 8 = 4 ∧ z6 (p + 1) (l + 1) 0 4 = 0 ∧ (oMelt (z6 (p + 1) (l + 1)) (nI 0)).1 = -5 ∧ (oPour (z6 (p + 1) (l + 1)) (nI 0) (nI 0) (nI 1)).1 = nI 1 := by decide +kernel
set_option maxRecDepth 100000 in
theorem zf7 : ∀ p, p < 4 → ∀ l, l < 4 → qBat (bNum 1) (z7 (p + 1) (l + 1)) (nI 1) = nI 4 ∧ qSqk (z7 (p + 1) (l + 1)) (nI 4) = nI (((qz (p + 1) (l + 1)) + 52) % 100) ∧ z7 (p + 1) (l + 1) 0 2 = (qz (p + 1) (l + 1)) % 100 ∧ (oExam (z8 (p + 1) (l + 1)) (nI 1)).1 = nI 1 := by decide +kernel
set_option maxRecDepth 100000 in
theorem zf8 : ∀ p, p < 4 → ∀ l, l < 4 → z9 (p + 1) (l + 1) 0 7 = 1 ∧ z9 (p + 1) (l + 1) 0 6 = 5 ∧ qMib (z9 (p + 1) (l + 1)) (nI 0) = nI 0 ∧ (oReset (z9 (p + 1) (l + 1)) (nI 0)).1 = nI 5 ∧ qMld 2 (z9 (p + 1) (l + 1)) (nI 0) = nI 5 ∧ qNxt (za10 (p + 1) (l + 1)) (nI 0) (nI 0) = nI ((qz (p + 1) (l + 1)) % 100) := by decide +kernel
set_option maxRecDepth 100000 in
theorem zf9 : ∀ p, p < 4 → ∀ l, l < 4 → z8 (p + 1) (l + 1) 0 4 = 1 ∧ z8 (p + 1) (l + 1) 13 0 = 1 ∧ qBat (bNum 4) (z8 (p + 1) (l + 1)) (nI 1) = nI 0 ∧ qBof (z8 (p + 1) (l + 1)) (nI 4) = nI 1 := by decide +kernel
theorem share5 : FP.fdiv (FP.i2f (nI 1)) (FP.i2f (nI 5)) = 1045220557 := by decide +kernel
theorem share_c : Op.cmpValue (FP.fcmp 1045220557 1045220557) .l = nI 0 := by decide +kernel
theorem zn {p l : Nat} (hp : p < 4) (hl : l < 4) : qBat bNee (z2 (p + 1) (l + 1)) (nI 0) = nI (max (qz (p + 1) (l + 1) % 100) ((qz (p + 1) (l + 1) + 26) % 100)) := by
  obtain ⟨-, -, h1, -, h2⟩ := zf3 p hp l hl
  unfold qBat bNee
  rw [if_pos h1, ← lps_lst, h2]
theorem zs_run {p l : Nat} (hp : p < 4) (hl : l < 4) : qRun (ZS vIni [] (tz (p + 1) (l + 1))) = nI 5 ∧ aRun (ZS vIni [] (tz (p + 1) (l + 1))) = ZS (z1 (p + 1) (l + 1)) [vIni] [] := by
  obtain ⟨h1, h2, h3, h4, h5⟩ := zr p hp l hl
  have hr : rnC [(0, [p + 1, 0, 2]), (1, [l + 1]), (2, [0, 40]), (2, [2, 20]), (3, [0, 0, 4])] vIni 0 = (none, z1 (p + 1) (l + 1)) := by
    have g1 : ¬ (oC (0, [p + 1, 0, 2]) vIni).1.toInt < 0 := nneg (n := 0) h1 (by decide)
    have g2 : ¬ (oC (1, [l + 1]) (za (p + 1) (l + 1))).1.toInt < 0 := nneg (n := 0) h2 (by decide)
    have g3 : ¬ (oC (2, [0, 40]) (zb (p + 1) (l + 1))).1.toInt < 0 := nneg (n := 40) h3 (by decide)
    have g4 : ¬ (oC (2, [2, 20]) (zc (p + 1) (l + 1))).1.toInt < 0 := nneg (n := 20) h4 (by decide)
    have g5 : ¬ (oC (3, [0, 0, 4]) (zd (p + 1) (l + 1))).1.toInt < 0 := nneg (n := 0) h5 (by decide)
    rw [rnC_on g1]
    show rnC _ (za (p + 1) (l + 1)) _ = _
    rw [rnC_on g2]
    show rnC _ (zb (p + 1) (l + 1)) _ = _
    rw [rnC_on g3]
    show rnC _ (zc (p + 1) (l + 1)) _ = _
    rw [rnC_on g4]
    show rnC _ (zd (p + 1) (l + 1)) _ = _
    rw [rnC_on g5]
    rfl
  exact run_ok (S := ZS vIni [] (tz (p + 1) (l + 1))) (zt3 p hp l hl) hr
/-! what was before: the lists to go back by -/
def uz1 (_ _ : Nat) : List SV := [vIni]
def uz2 (p l : Nat) : List SV := (z1 p l :: uz1 p l).take 8
def uz3 (p l : Nat) : List SV := (z2 p l :: uz2 p l).take 8
def uz4 (p l : Nat) : List SV := (z3 p l :: uz3 p l).take 8
def uz5 (p l : Nat) : List SV := (z4 p l :: uz4 p l).take 8
def uz6 (p l : Nat) : List SV := (z5 p l :: uz5 p l).take 8
def uz7 (p l : Nat) : List SV := (z6 p l :: uz6 p l).take 8
def uz8 (p l : Nat) : List SV := (z7 p l :: uz7 p l).take 8
def uz9 (p l : Nat) : List SV := (z8 p l :: uz8 p l).take 8
def uz10 (p l : Nat) : List SV := (z9 p l :: uz9 p l).take 8
theorem mtc {K : Nat} {v : SV} {us : List SV} {n : Nat} (h : IFB K v) (hu : ∀ u ∈ us, IFB K u) : ∀ u ∈ (v :: us).take n, IFB K u := fun u hx => by
  rcases List.mem_cons.mp (List.mem_of_mem_take hx) with rfl | hx
  · exact h
  · exact hu u hx
theorem mtt {K : Nat} {us : List SV} {n : Nat} (hu : ∀ u ∈ us, IFB K u) : ∀ u ∈ us.take n, IFB K u := fun u hx => hu u (List.mem_of_mem_take hx)
theorem IF_ini {K : Nat} : IFB K vIni := ⟨Inv_ini.mono (Nat.zero_le _), FB_ini⟩
theorem IF_z {p l : Nat} : IFB 5 (z1 p l) ∧ IFB 6 (z2 p l) ∧ IFB 7 (z3 p l) ∧ IFB 8 (z4 p l) ∧ IFB 9 (z5 p l) ∧ IFB 10 (z6 p l) ∧ IFB 11 (z7 p l) ∧ IFB 12 (z8 p l) ∧ IFB 13 (z9 p l) ∧ IFB 14 (za10 p l) := by
  have h1 : IFB 5 (z1 p l) := IF_pour (IF_buy (IF_buy (IF_mould (IF_mix IF_ini)))) (by decide)
  have h2 : IFB 6 (z2 p l) := IF_tol h1
  have h3 : IFB 7 (z3 p l) := IF_step h2
  have h4 : IFB 8 (z4 p l) := IF_step h3
  have h5 : IFB 9 (z5 p l) := IF_exam h4 (by decide)
  have h6 : IFB 10 (z6 p l) := IF_melt h5 (by decide)
  have h7 : IFB 11 (z7 p l) := IF_pour h6 (by decide)
  have h8 : IFB 12 (z8 p l) := IF_tol h7
  have h9 : IFB 13 (z9 p l) := IF_exam h8 (by decide)
  exact ⟨h1, h2, h3, h4, h5, h6, h7, h8, h9, IF_reset h9⟩
theorem U_z {p l : Nat} : (∀ u ∈ uz1 p l, IFB 20 u) ∧ (∀ u ∈ uz2 p l, IFB 20 u) ∧ (∀ u ∈ uz3 p l, IFB 20 u) ∧ (∀ u ∈ uz4 p l, IFB 20 u) ∧ (∀ u ∈ uz5 p l, IFB 20 u) ∧ (∀ u ∈ uz6 p l, IFB 20 u) ∧ (∀ u ∈ uz7 p l, IFB 20 u) ∧ (∀ u ∈ uz8 p l, IFB 20 u) ∧ (∀ u ∈ uz9 p l, IFB 20 u) ∧ (∀ u ∈ uz10 p l, IFB 20 u) := by
  obtain ⟨h1, h2, h3, h4, h5, h6, h7, h8, h9, h10⟩ := IF_z (p := p) (l := l)
  have u1 : ∀ u ∈ uz1 p l, IFB 20 u := fun u hx => by cases List.mem_singleton.mp hx; exact IF_ini
  have u2 : ∀ u ∈ uz2 p l, IFB 20 u := mtc (h1.up (by decide)) u1
  have u3 : ∀ u ∈ uz3 p l, IFB 20 u := mtc (h2.up (by decide)) u2
  have u4 : ∀ u ∈ uz4 p l, IFB 20 u := mtc (h3.up (by decide)) u3
  have u5 : ∀ u ∈ uz5 p l, IFB 20 u := mtc (h4.up (by decide)) u4
  have u6 : ∀ u ∈ uz6 p l, IFB 20 u := mtc (h5.up (by decide)) u5
  have u7 : ∀ u ∈ uz7 p l, IFB 20 u := mtc (h6.up (by decide)) u6
  have u8 : ∀ u ∈ uz8 p l, IFB 20 u := mtc (h7.up (by decide)) u7
  have u9 : ∀ u ∈ uz9 p l, IFB 20 u := mtc (h8.up (by decide)) u8
  exact ⟨u1, u2, u3, u4, u5, u6, u7, u8, u9, mtc (h9.up (by decide)) u9⟩
theorem AJ_ZS {K : Nat} {v : SV} {us : List SV} {b : List Nat} (h : IFB K v) (hu : ∀ u ∈ us, IFB K u) (hb : ∀ c ∈ b, c < 127) : AJ K (ZS v us b) := AJ_of h hu (fun x hx => by cases hx) hb (Or.inl rfl) (Or.inl rfl)
theorem nil127 : ∀ c ∈ ([] : List Nat), c < 127 := fun c hc => absurd hc List.not_mem_nil
theorem AJz1 {p l : Nat} : AJ 20 (ZS (z1 p l) (uz1 p l) []) := AJ_ZS ((IF_z (p := p) (l := l)).1.up (by decide)) (U_z (p := p) (l := l)).1 nil127
theorem AJz2 {p l : Nat} : AJ 20 (ZS (z2 p l) (uz2 p l) []) := AJ_ZS ((IF_z (p := p) (l := l)).2.1.up (by decide)) (U_z (p := p) (l := l)).2.1 nil127
theorem AJz3 {p l : Nat} : AJ 20 (ZS (z3 p l) (uz3 p l) []) := AJ_ZS ((IF_z (p := p) (l := l)).2.2.1.up (by decide)) (U_z (p := p) (l := l)).2.2.1 nil127
theorem AJz4 {p l : Nat} : AJ 20 (ZS (z4 p l) (uz4 p l) []) := AJ_ZS ((IF_z (p := p) (l := l)).2.2.2.1.up (by decide)) (U_z (p := p) (l := l)).2.2.2.1 nil127
theorem AJz5 {p l : Nat} : AJ 20 (ZS (z5 p l) (uz5 p l) []) := AJ_ZS ((IF_z (p := p) (l := l)).2.2.2.2.1.up (by decide)) (U_z (p := p) (l := l)).2.2.2.2.1 nil127
theorem AJz6 {p l : Nat} : AJ 20 (ZS (z6 p l) (uz6 p l) []) := AJ_ZS ((IF_z (p := p) (l := l)).2.2.2.2.2.1.up (by decide)) (U_z (p := p) (l := l)).2.2.2.2.2.1 nil127
theorem AJz7 {p l : Nat} : AJ 20 (ZS (z7 p l) (uz7 p l) []) := AJ_ZS ((IF_z (p := p) (l := l)).2.2.2.2.2.2.1.up (by decide)) (U_z (p := p) (l := l)).2.2.2.2.2.2.1 nil127
theorem AJz8 {p l : Nat} : AJ 20 (ZS (z8 p l) (uz8 p l) []) := AJ_ZS ((IF_z (p := p) (l := l)).2.2.2.2.2.2.2.1.up (by decide)) (U_z (p := p) (l := l)).2.2.2.2.2.2.2.1 nil127
theorem AJz9 {p l : Nat} : AJ 20 (ZS (z9 p l) (uz9 p l) []) := AJ_ZS ((IF_z (p := p) (l := l)).2.2.2.2.2.2.2.2.1.up (by decide)) (U_z (p := p) (l := l)).2.2.2.2.2.2.2.2.1 nil127
theorem AJz10 {p l : Nat} : AJ 20 (ZS (za10 p l) (uz10 p l) []) := AJ_ZS ((IF_z (p := p) (l := l)).2.2.2.2.2.2.2.2.2.up (by decide)) (U_z (p := p) (l := l)).2.2.2.2.2.2.2.2.2 nil127
theorem AJ_XS {K : Nat} {v0 v : SV} {us : List SV} {b : List Nat} {e1 e2 : Int32} (h0 : IFB K v0) (h : IFB K v) (hu : ∀ u ∈ us, IFB K u) (hb : ∀ c ∈ b, c < 127) (he1 : e1 = -1 ∨ 0 ≤ e1.toInt) (he2 : e2 = -1 ∨ 0 ≤ e2.toInt) : AJ K (XS v0 v us b e1 e2) := AJ_of h hu (fun x hx => by cases hx; exact h0) hb he1 he2
theorem AJ_YS {K : Nat} {v : SV} {us : List SV} (h : IFB K v) (hu : ∀ u ∈ us, IFB K u) : AJ K (YS v us) := AJ_of h hu (fun x hx => by cases hx) nil127 (Or.inl rfl) (Or.inl rfl)
theorem FS_und2 {cy : Nat → ClassId} {f n m : Nat} {w v : SV} {us : List SV} {u : va_W} (hm : n + 1 ≤ m) (h : FS cy f (aUndo (YS w (((v :: us).take m).take (n + 1)))) u) : FS cy f (YS v (us.take n)) u := by
  have e : aUndo (YS w (((v :: us).take m).take (n + 1))) = YS v (us.take n) := by rw [tk hm]; rfl
  rw [e] at h
  exact h
theorem q_und2 {n m : Nat} {w v : SV} {us : List SV} (hm : n + 1 ≤ m) : qUndo (YS w (((v :: us).take m).take (n + 1))) = nI (us.take n).length := by rw [tk hm]; rfl
theorem ok_len {n : Nat} {us : List SV} (hn : n ≤ 8) : okA (nI (us.take n).length) := okN (by have := List.length_take_le n us; omega)
theorem bld_ok {sa : Nat → Nat} : ∃ (b : SV) (us : List SV), BLD sa = YS b us ∧ IFB 120 b ∧ (∀ u ∈ us, IFB 120 u) ∧ b 0 1 = 2 := by
  obtain ⟨hJ, h1, h2, h3⟩ := J_BLD (sa := sa)
  refine ⟨(BLD sa).1, (BLD sa).2.1, ?_, IFB.up hJ.1.1 (by decide), fun u hu => IFB.up (hJ.1.2.1 u hu) (by decide), h2⟩
  show BLD sa = ((BLD sa).1, (BLD sa).2.1, AS0.2.2)
  rw [← h3]
theorem aMut_no {S : AS} {o : Int32 × SV} (h : o.1.toInt < 0) : aMut S o = S := if_pos h
theorem fl_new {u : va_W} {bs : List va_W} : (u ++ bs.flatten).Perm (bs ++ [u]).flatten := by
  rw [List.flatten_append]
  refine List.perm_append_comm.trans ?_
  show (bs.flatten ++ u).Perm (bs.flatten ++ (u ++ []))
  rw [List.append_nil]
