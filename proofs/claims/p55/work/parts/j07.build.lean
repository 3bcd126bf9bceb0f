/-! ===== the building of a foundry out of the script ===== -/
def bt (x : Int32) (m : Nat) : Nat := (x.toUInt32 &&& UInt32.ofNat m).toNat
def shr (x y : Int32) : Int32 := x >>> (y &&& 31)
theorem bt_and (x : Int32) (m : Nat) : x &&& nI m = nI (bt x m) := by
  show x &&& nI m = (UInt32.ofNat (x.toUInt32 &&& UInt32.ofNat m).toNat).toInt32
  rw [UInt32.ofNat_toNat]
  rfl
theorem bt_le (x : Int32) (m : Nat) : bt x m ≤ m := by
  unfold bt
  rw [UInt32.toNat_and, UInt32.toNat_ofNat']
  exact Nat.le_trans Nat.and_le_right (Nat.mod_le _ _)
section BLDA
variable {K : Nat} {S : AS} {x y z : Int32}
theorem AJ_0 (h : AJ K S) : AJ (K + 1) (aMut S (oMix S.1 x y z)) := h.mut ⟨oMix_inv h.1.1.1, oMix_fb h.1.1.2 h.1.1.1.1⟩
theorem AJ_1 (h : AJ K S) : AJ (K + 1) (aMut S (oMould S.1 x)) := h.mut ⟨oMould_inv h.1.1.1, oMould_fb h.1.1.2⟩
theorem AJ_2 (h : AJ K S) : AJ (K + 1) (aMut S (oBuy S.1 x y)) := h.mut ⟨oBuy_inv h.1.1.1, oBuy_fb h.1.1.2⟩
theorem AJ_3 (h : AJ K S) (hK : K < 100000) : AJ (K + 1) (aMut S (oPour S.1 x y z)) := h.mut ⟨oPour_inv h.1.1.1 hK, oPour_fb h.1.1.2⟩
theorem AJ_4 (h : AJ K S) (hK : K < 100000) : AJ (K + 1) (aMut S (oExam S.1 x)) := h.mut ⟨oExam_inv h.1.1.1 hK, oExam_fb h.1.1.2 h.1.1.1.1⟩
theorem AJ_5 (h : AJ K S) (hK : K < 100000) : AJ (K + 1) (aMut S (oMelt S.1 x)) := h.mut ⟨oMelt_inv h.1.1.1 hK, oMelt_fb h.1.1.2 h.1.1.1.1⟩
theorem AJ_6 (h : AJ K S) : AJ (K + 1) (aMut S (oReset S.1 x)) := h.mut ⟨oReset_inv h.1.1.1, oReset_fb h.1.1.2⟩
theorem AJ_7 (h : AJ K S) : AJ (K + 1) (aMut S (oTol S.1 x)) := h.mut ⟨oTol_inv h.1.1.1, oTol_fb h.1.1.2⟩
theorem AJ_8 (h : AJ K S) : AJ (K + 1) (aMut S (oStep S.1 x)) := h.mut ⟨oStep_inv h.1.1.1, oStep_fb h.1.1.2⟩
end BLDA
/-! what stays: two moulds, an alloy at least; what is beside the states -/
def Kp (v w : SV) : Prop := v 0 0 ≤ w 0 0 ∧ w 0 1 = v 0 1
theorem Kp.rfl' {v : SV} : Kp v v := ⟨Nat.le_refl _, rfl⟩
theorem Kp.tr {v w u : SV} (h : Kp v w) (g : Kp w u) : Kp v u := ⟨Nat.le_trans h.1 g.1, g.2.trans h.2⟩
theorem Kp_eq {v w : SV} (h0 : w 0 0 = v 0 0) (h1 : w 0 1 = v 0 1) : Kp v w := ⟨by omega, h1⟩
theorem Kp_mix {v : SV} {x y z : Int32} : Kp v (oMix v x y z).2 := by
  unfold oMix
  split
  · split
    · exact ⟨by dsimp only; rw [up2_s]; omega, by dsimp only; rw [up2_at (by decide), up2_ne (by omega), up2_ne (by omega), up2_ne (by omega)]⟩
    · exact Kp.rfl'
  · exact Kp.rfl'
theorem Kp_up {v : SV} {b k x : Nat} (h : b ≠ 0 ∨ 2 ≤ k) : Kp v (up2 v b k x) := by
  rcases h with h | h
  · exact Kp_eq (congrFun (up2_ne (fun q => h q.symm)) 0) (congrFun (up2_ne (fun q => h q.symm)) 1)
  · by_cases e : b = 0
    · subst e
      exact Kp_eq (up2_at (by omega)) (up2_at (by omega))
    · exact Kp_eq (congrFun (up2_ne (fun q => e q.symm)) 0) (congrFun (up2_ne (fun q => e q.symm)) 1)
theorem Kp_buy {v : SV} {x y : Int32} : Kp v (oBuy v x y).2 := by
  unfold oBuy
  split
  · split
    · split
      · exact (Kp_up (Or.inl (by decide))).tr (Kp_up (Or.inl (by decide)))
      · exact Kp.rfl'
    · exact Kp.rfl'
  · exact Kp.rfl'
theorem Kp_reset {v : SV} {x : Int32} : Kp v (oReset v x).2 := by
  unfold oReset
  split
  · exact Kp_up (Or.inl (by decide))
  · exact Kp.rfl'
theorem Kp_tol {v : SV} {x : Int32} : Kp v (oTol v x).2 := by
  unfold oTol
  split
  · exact Kp_up (Or.inr (by decide))
  · exact Kp.rfl'
theorem Kp_step {v : SV} {x : Int32} : Kp v (oStep v x).2 := by
  unfold oStep
  split
  · exact Kp_up (Or.inr (by decide))
  · exact Kp.rfl'
theorem Kp_pour {v : SV} {x y z : Int32} : Kp v (oPour v x y z).2 := by
  unfold oPour
  split
  · split
    · split
      · rename_i h8
        split
        · exact Kp_eq (pou_0 (k := 0) (a := tn x) (m := tn y) (n := tn z) h8.1 (by decide) (by decide) (by decide)) (pou_0 (k := 1) (a := tn x) (m := tn y) (n := tn z) h8.1 (by decide) (by decide) (by decide))
        · exact Kp.rfl'
      · exact Kp.rfl'
    · exact Kp.rfl'
  · exact Kp.rfl'
theorem Kp_rmv {v : SV} {p : Nat} : Kp v (rmv v p) := by
  have e : rmv v p 0 = up2 v 0 4 (v 0 4 - 1) 0 := by
    unfold rmv
    rw [if_neg (by omega), if_neg (by omega)]
  exact Kp_eq (by rw [e]; exact up2_at (by decide)) (by rw [e]; exact up2_at (by decide))
theorem Kp_exam {v : SV} {x : Int32} : Kp v (oExam v x).2 := by
  unfold oExam
  split
  · split
    · split
      · refine Kp.tr (w := exT (exS v (plc v x.toInt) 3) (plc v x.toInt)) ?_ Kp_rmv
        refine Kp.tr (w := exS v (plc v x.toInt) 3) ?_ (Kp_up (Or.inr (by decide)))
        exact Kp_eq (by rw [exS_n]) (by rw [exS_n])
      · exact Kp_up (Or.inl (by omega))
    · exact Kp.rfl'
  · exact Kp.rfl'
theorem Kp_melt {v : SV} {x : Int32} : Kp v (oMelt v x).2 := by
  unfold oMelt
  split
  · split
    · refine Kp.tr (w := meT (meL v (plc v x.toInt) 3) (plc v x.toInt)) ?_ Kp_rmv
      refine Kp.tr (w := meL v (plc v x.toInt) 3) ?_ (Kp_up (Or.inr (by decide)))
      exact Kp_eq (by rw [meL_n]) (by rw [meL_n])
    · exact Kp.rfl'
  · exact Kp.rfl'
/-- a foundry that is being built -/
def Gd (S : AS) : Prop := 1 ≤ S.1 0 0 ∧ S.1 0 1 = 2 ∧ S.2.2 = AS0.2.2
theorem aMut_2 {S : AS} {o : Int32 × SV} : (aMut S o).2.2 = S.2.2 := by
  unfold aMut
  split <;> rfl
theorem aMut_K {S : AS} {o : Int32 × SV} (h : Kp S.1 o.2) : Kp S.1 (aMut S o).1 := by
  unfold aMut
  split
  · exact Kp.rfl'
  · exact h
theorem Gd.mut {S : AS} {o : Int32 × SV} (h : Gd S) (hK : Kp S.1 o.2) : Gd (aMut S o) := by
  have k := aMut_K hK
  exact ⟨Nat.le_trans h.1 k.1, k.2.trans h.2.1, aMut_2.trans h.2.2⟩
def bA (z : Int32) : Nat → AS
  | 0 => AS0
  | k + 1 => aMut (bA z k) (oMix (bA z k).1 (nI (bt (shr z (nI (1 + 3 * k))) 7 % 5)) (nI (bt (shr z (nI (2 + 4 * k))) 3)) (nI (1 + bt (shr z (nI (3 + 5 * k))) 3)))
def bM (z : Int32) : Nat → AS
  | 0 => bA z (2 + bt z 1)
  | k + 1 => aMut (bM z k) (oMould (bM z k).1 (nI (1 + bt (shr z (nI (7 * k))) 63 % 50)))
def bB (z : Int32) : Nat → AS
  | 0 => bM z 2
  | k + 1 => aMut (bB z k) (oBuy (bB z k).1 (nI (k % 3)) (nI (60 + bt (shr z (nI k)) 31)))
def s1 (c : Int32) (S : AS) : AS := aMut S (oBuy S.1 (nI (bt c 3 % 3)) (nI (1 + bt (shr c (nI 2)) 63)))
def s2 (c : Int32) (S : AS) : AS := aMut S (oPour S.1 (nI (bt (shr c (nI 8)) 7 % S.1 0 0)) (nI (bt (shr c (nI 11)) 1)) (nI (1 + bt (shr c (nI 12)) 7)))
def bnO (c : Int32) (S : AS) : Nat := if 0 < S.1 0 4 then S.1 (13 + bt (shr c (nI 15)) 7 % S.1 0 4) 0 else 0
def s3 (c : Int32) (b : Nat) (S : AS) : AS := if bt (shr c (nI 18)) 1 = 0 then aMut S (oExam S.1 (nI b)) else S
def s4 (c : Int32) (b : Nat) (S : AS) : AS := if bt (shr c (nI 18)) 3 = 1 then aMut S (oMelt S.1 (nI b)) else S
def s5 (c : Int32) (S : AS) : AS := if bt (shr c (nI 20)) 3 = 0 then aMut S (oReset S.1 (nI (bt (shr c (nI 11)) 1))) else S
def s6 (c : Int32) (S : AS) : AS := if bt (shr c (nI 20)) 7 = 1 then aMut S (oTol S.1 (nI (bt (shr c (nI 23)) 127 % 100))) else S
def s7 (c : Int32) (S : AS) : AS := if bt (shr c (nI 20)) 7 = 2 then aMut S (oStep S.1 (nI (1 + bt (shr c (nI 23)) 7 % 5))) else S
def s8 (c : Int32) (S : AS) : AS := if bt (shr c (nI 20)) 7 = 3 then aMut S (oMix S.1 (nI (bt (shr c (nI 23)) 15 % 10)) (nI (bt (shr c (nI 25)) 7)) (nI (bt (shr c (nI 27)) 3))) else S
def sI (c : Int32) (S : AS) : AS := s8 c (s7 c (s6 c (s5 c (s4 c (bnO c (s2 c (s1 c S))) (s3 c (bnO c (s2 c (s1 c S))) (s2 c (s1 c S)))))))
def bC (g : Nat → Int32) (z : Int32) : Nat → AS
  | 0 => bB z 9
  | k + 1 => sI (g (k + 1)) (bC g z k)
/-- the foundry that build makes -/
def BLD (sa : Nat → Nat) : AS := bC (atS sa) (atS sa 0) 12
section BLDK
variable {K : Nat} {S : AS} {c : Int32} {b : Nat}
theorem J1 (h : AJ K S ∧ Gd S) : AJ (K + 1) (s1 c S) ∧ Gd (s1 c S) := ⟨AJ_2 h.1, h.2.mut Kp_buy⟩
theorem J2 (h : AJ K S ∧ Gd S) (hK : K < 100000) : AJ (K + 1) (s2 c S) ∧ Gd (s2 c S) := ⟨AJ_3 h.1 hK, h.2.mut Kp_pour⟩
theorem J3 (h : AJ K S ∧ Gd S) (hK : K < 100000) : AJ (K + 1) (s3 c b S) ∧ Gd (s3 c b S) := by
  unfold s3
  split
  · exact ⟨AJ_4 h.1 hK, h.2.mut Kp_exam⟩
  · exact ⟨h.1.mono (by omega), h.2⟩
theorem J4 (h : AJ K S ∧ Gd S) (hK : K < 100000) : AJ (K + 1) (s4 c b S) ∧ Gd (s4 c b S) := by
  unfold s4
  split
  · exact ⟨AJ_5 h.1 hK, h.2.mut Kp_melt⟩
  · exact ⟨h.1.mono (by omega), h.2⟩
theorem J5 (h : AJ K S ∧ Gd S) : AJ (K + 1) (s5 c S) ∧ Gd (s5 c S) := by
  unfold s5
  split
  · exact ⟨AJ_6 h.1, h.2.mut Kp_reset⟩
  · exact ⟨h.1.mono (by omega), h.2⟩
theorem J6 (h : AJ K S ∧ Gd S) : AJ (K + 1) (s6 c S) ∧ Gd (s6 c S) := by
  unfold s6
  split
  · exact ⟨AJ_7 h.1, h.2.mut Kp_tol⟩
  · exact ⟨h.1.mono (by omega), h.2⟩
theorem J7 (h : AJ K S ∧ Gd S) : AJ (K + 1) (s7 c S) ∧ Gd (s7 c S) := by
  unfold s7
  split
  · exact ⟨AJ_8 h.1, h.2.mut Kp_step⟩
  · exact ⟨h.1.mono (by omega), h.2⟩
theorem J8 (h : AJ K S ∧ Gd S) : AJ (K + 1) (s8 c S) ∧ Gd (s8 c S) := by
  unfold s8
  split
  · exact ⟨AJ_0 h.1, h.2.mut Kp_mix⟩
  · exact ⟨h.1.mono (by omega), h.2⟩
theorem JI (h : AJ K S ∧ Gd S) (hK : K < 90000) : AJ (K + 8) (sI c S) ∧ Gd (sI c S) := J8 (J7 (J6 (J5 (J4 (J3 (J2 (J1 h) (by omega)) (by omega)) (by omega)))))
end BLDK
theorem AJ_bA {z : Int32} : ∀ k, AJ k (bA z k)
  | 0 => AJ_ini
  | k + 1 => AJ_0 (AJ_bA k)
theorem oMix_ok {v : SV} {x y z : Nat} (hx : x < 10) (hy : y < 10) (hz : z < 10) (h1 : 1 ≤ z) (h6 : v 0 0 < 6) : (oMix v (nI x) (nI y) (nI z)).1 = nI (v 0 0) ∧ (oMix v (nI x) (nI y) (nI z)).2 0 0 = v 0 0 + 1 := by
  unfold oMix
  rw [if_pos ⟨(inR_nI (by omega)).mpr hx, (inR_nI (by omega)).mpr hy, (inR_nI (by omega)).mpr hz, by rw [tn_nI (by omega), tn_nI (by omega), tn_nI (by omega)]; omega⟩, if_pos h6]
  exact ⟨rfl, by dsimp only; rw [up2_s]⟩
theorem aMut_ok {S : AS} {o : Int32 × SV} {n : Nat} (h : o.1 = nI n) (hn : n < 2147483648) : (aMut S o).1 = o.2 := by
  unfold aMut
  rw [if_neg (by rw [h, nI_I hn]; omega)]
theorem bA_0 {z : Int32} : ∀ k, k ≤ 3 → (bA z k).1 0 0 = k ∧ (bA z k).1 0 1 = 0 ∧ (bA z k).2.2 = AS0.2.2
  | 0, _ => ⟨rfl, rfl, rfl⟩
  | k + 1, h => by
    obtain ⟨h0, h1, h2⟩ := bA_0 (z := z) k (by omega)
    have a1 := bt_le (shr z (nI (2 + 4 * k))) 3
    have a2 := bt_le (shr z (nI (3 + 5 * k))) 3
    have a3 : bt (shr z (nI (1 + 3 * k))) 7 % 5 < 5 := Nat.mod_lt _ (by decide)
    obtain ⟨e1, e2⟩ := oMix_ok (v := (bA z k).1) (x := bt (shr z (nI (1 + 3 * k))) 7 % 5) (y := bt (shr z (nI (2 + 4 * k))) 3) (z := 1 + bt (shr z (nI (3 + 5 * k))) 3) (by omega) (by omega) (by omega) (by omega) (by omega)
    refine ⟨?_, ?_, aMut_2.trans h2⟩
    · show (aMut (bA z k) _).1 0 0 = _
      rw [aMut_ok e1 (by omega), e2, h0]
    · exact (aMut_K Kp_mix).2.trans h1
theorem oMould_ok {v : SV} {x : Nat} (hx : 1 ≤ x ∧ x ≤ 50) (h4 : v 0 1 < 4) : (oMould v (nI x)).1 = nI (v 0 1) ∧ (oMould v (nI x)).2 0 1 = v 0 1 + 1 ∧ (oMould v (nI x)).2 0 0 = v 0 0 := by
  unfold oMould
  rw [if_pos (by rw [nI_I (by omega)]; omega), if_pos h4]
  exact ⟨rfl, by dsimp only; rw [up2_s], by dsimp only; rw [up2_at (by decide), up2_ne (by omega), up2_ne (by omega)]⟩
theorem bM_0 {z : Int32} : ∀ k, k ≤ 2 → AJ (3 + k) (bM z k) ∧ 1 ≤ (bM z k).1 0 0 ∧ (bM z k).1 0 1 = k ∧ (bM z k).2.2 = AS0.2.2
  | 0, _ => by
    have a := bt_le z 1
    obtain ⟨h0, h1, h2⟩ := bA_0 (z := z) (2 + bt z 1) (by omega)
    exact ⟨(AJ_bA _).mono (by omega), by show 1 ≤ (bA z (2 + bt z 1)).1 0 0; omega, h1, h2⟩
  | k + 1, h => by
    obtain ⟨hJ, h0, h1, h2⟩ := bM_0 (z := z) k (by omega)
    have a3 : bt (shr z (nI (7 * k))) 63 % 50 < 50 := Nat.mod_lt _ (by decide)
    obtain ⟨e1, e2, e3⟩ := oMould_ok (v := (bM z k).1) (x := 1 + bt (shr z (nI (7 * k))) 63 % 50) (by omega) (by omega)
    have e : (bM z (k + 1)).1 = (oMould (bM z k).1 (nI (1 + bt (shr z (nI (7 * k))) 63 % 50))).2 := aMut_ok e1 (by omega)
    exact ⟨AJ_1 hJ, by rw [e, e3]; exact h0, by rw [e, e2, h1], aMut_2.trans h2⟩
theorem J_bB {z : Int32} : ∀ k, AJ (5 + k) (bB z k) ∧ Gd (bB z k)
  | 0 => by
    obtain ⟨hJ, h0, h1, h2⟩ := bM_0 (z := z) 2 (by omega)
    exact ⟨hJ, h0, h1, h2⟩
  | k + 1 => ⟨AJ_2 (J_bB k).1, (J_bB k).2.mut Kp_buy⟩
theorem J_bC {g : Nat → Int32} {z : Int32} : ∀ k, k ≤ 12 → AJ (14 + 8 * k) (bC g z k) ∧ Gd (bC g z k)
  | 0, _ => J_bB 9
  | k + 1, h => by
    have h1 := JI (c := g (k + 1)) (J_bC (g := g) (z := z) k (by omega)) (by omega)
    exact ⟨h1.1.mono (by omega), h1.2⟩
theorem J_BLD {sa : Nat → Nat} : AJ 110 (BLD sa) ∧ Gd (BLD sa) := J_bC 12 (by omega)
set_option maxRecDepth 20000 in
set_option maxHeartbeats 8000000 in
theorem cW_build {l : Launch} {D : va_G} {cy : Nat → ClassId} {sa : Nat → Nat} (hst : l.stackTraces = false) : MG l yL_build cL_build 7 (some (.object "BowFoundry")) 10 480 2932 (D, cy, sa) [.ref (sa 90)] ([]) (fun w u => ∃ f, w = some (.ref f) ∧ FS cy f (BLD sa) u) := by
  refine MGL_by (own := RL) (L := [some (.ref (sa 90)), none, none, none, none, none, none]) (by decide +kernel) rfl rfl (Nat.le_of_ble_eq_true rfl) 6 rfl (fun X hX hE hnL hG hcy hl => ?_)
  refine r_new (k' := 1) (n' := 9) (pc' := 3) hX dL_build_0 cl_L_18 rfl rfl (by decide) (by decide) rfl (fun f => ?_)
  change V X 1 9 ([(f, .inr (7, [.null, .null, .null, .null, .int (nI 0), .int (nI 0), .int (nI 0), .int (nI 0), .int (nI 0)]))]) [some (.ref (sa 90)), none, none, none, none, none, none] [.ref f] 3
  refine r_dup (pc' := 4) hX dL_build_3 rfl rfl ?_
  refine V_call0 (k' := 1 + 348) (n' := 9 + 2137) (pc' := 7) hX (r_runI (ret := none) (As := []) hX dL_build_4 k_L_23 (fun l9 hl9 => cF_init) hG rfl rfl (Nat.le_of_ble_eq_true rfl) (by decide) (by decide) (by omega) (by omega)) (by omega) (by omega) rfl (fun w9 u9 hp9 => ?_)
  obtain ⟨rfl, hF0⟩ := hp9
  change V X (1 + 348) (9 + 2137) (u9) [some (.ref (sa 90)), none, none, none, none, none, none] [.ref f] 7
  refine r_astore_n (L' := [some (.ref (sa 90)), some (.ref f), none, none, none, none, none]) (pc' := 8) hX dL_build_7 (nlt hnL (by decide)) rfl rfl rfl ?_
  refine r_aload_n (pc' := 9) hX dL_build_8 rfl rfl ?_
  refine r_iconst (pc' := 10) (v := nI 0) hX dL_build_9 rfl rfl ?_
  obtain ⟨z, hz⟩ : ∃ z, z = atS sa 0 := ⟨_, rfl⟩
  refine V_calln (k' := 1 + 348) (n' := 9 + 2137) (pc' := 13) hX (r_runS (As := [.ref (sa 90), .int (nI 0)]) hX dL_build_10 k_L_24 (fun l9 hl9 => cW_at (by omega)) hG rfl rfl (Nat.le_of_ble_eq_true rfl) (by decide) (by decide) (by omega) (by omega)) (by omega) (by omega) rfl (fun w9 hp9 => ?_)
  obtain rfl := hp9
  rw [← hz]
  change V X (1 + 348) (9 + 2137) (u9) [some (.ref (sa 90)), some (.ref f), none, none, none, none, none] [.int z] 13
  refine r_istore_n (L' := [some (.ref (sa 90)), some (.ref f), some (.int z), none, none, none, none]) (pc' := 14) hX dL_build_13 (nlt hnL (by decide)) rfl rfl rfl ?_
  refine r_iconst (pc' := 15) (v := nI 0) hX dL_build_14 rfl rfl ?_
  refine r_istore_n (L' := [some (.ref (sa 90)), some (.ref f), some (.int z), some (.int (nI 0)), none, none, none]) (pc' := 16) hX dL_build_15 (nlt hnL (by decide)) rfl rfl rfl ?_
  have loop16 : ∀ (n9 : Nat) (j : Nat) (w9 : va_W), (2 + bt z 1) + 1 - j < n9 → (j ≤ 2 + bt z 1) → (FS cy f (bA z j) w9) → V X (349 + 1 * j) (2146 + 6 * j) (w9) [some (.ref (sa 90)), some (.ref f), some (.int z), some (.int (nI j)), none, none, none] [] 16 := by
    intro n9
    induction n9 with
    | zero => intro j w9 hm; exact absurd hm (Nat.not_lt_zero _)
    | succ n9 ih16 =>
      intro j w9 hm hj hF9
      refine r_iload_n (pc' := 17) hX dL_build_16 rfl rfl ?_
      refine r_iconst (pc' := 18) (v := nI 2) hX dL_build_17 rfl rfl ?_
      refine r_iload_n (pc' := 19) hX dL_build_18 rfl rfl ?_
      refine r_iconst (pc' := 20) (v := nI 1) hX dL_build_19 rfl rfl ?_
      refine r_iand (pc' := 21) hX dL_build_20 rfl ?_
      rw [bt_and z 1]
      have hbt20 := bt_le z 1
      refine r_iadd_N (pc' := 22) hX dL_build_21  rfl ?_
      refine r_icmp_ge_N (tgt := 69) (pc' := 25) hX dL_build_22 (by decide) rfl (by omega) (by omega) (fun c22 => ?_) (fun c22 => ?_)
      · refine r_iconst (pc' := 70) (v := nI 0) hX dL_build_69 rfl rfl ?_
        refine r_istore_n (L' := [some (.ref (sa 90)), some (.ref f), some (.int z), some (.int (nI 0)), none, none, none]) (pc' := 71) hX dL_build_70 (nlt hnL (by decide)) rfl rfl rfl ?_
        have loop71 : ∀ (n9 : Nat) (j : Nat) (w9 : va_W), 2 + 1 - j < n9 → (j ≤ 2) → (FS cy f (bM z j) w9) → V X (352 + 1 * j) (2164 + 6 * j) (w9) [some (.ref (sa 90)), some (.ref f), some (.int z), some (.int (nI j)), none, none, none] [] 71 := by
          intro n9
          induction n9 with
          | zero => intro j w9 hm; exact absurd hm (Nat.not_lt_zero _)
          | succ n9 ih71 =>
            intro j w9 hm hj hF9
            refine r_iload_n (pc' := 72) hX dL_build_71 rfl rfl ?_
            refine r_iconst (pc' := 73) (v := nI 2) hX dL_build_72 rfl rfl ?_
            refine r_icmp_ge_N (tgt := 104) (pc' := 76) hX dL_build_73 (by decide) rfl (by omega) (by omega) (fun c73 => ?_) (fun c73 => ?_)
            · refine r_iconst (pc' := 105) (v := nI 0) hX dL_build_104 rfl rfl ?_
              refine r_istore_n (L' := [some (.ref (sa 90)), some (.ref f), some (.int z), some (.int (nI 0)), none, none, none]) (pc' := 106) hX dL_build_105 (nlt hnL (by decide)) rfl rfl rfl ?_
              have loop106 : ∀ (n9 : Nat) (j : Nat) (w9 : va_W), 9 + 1 - j < n9 → (j ≤ 9) → (FS cy f (bB z j) w9) → V X (354 + 1 * j) (2176 + 6 * j) (w9) [some (.ref (sa 90)), some (.ref f), some (.int z), some (.int (nI j)), none, none, none] [] 106 := by
                intro n9
                induction n9 with
                | zero => intro j w9 hm; exact absurd hm (Nat.not_lt_zero _)
                | succ n9 ih106 =>
                  intro j w9 hm hj hF9
                  refine r_iload_n (pc' := 107) hX dL_build_106 rfl rfl ?_
                  refine r_bipush (pc' := 109) (v := nI 9) hX dL_build_107 rfl rfl ?_
                  refine r_icmp_ge_N (tgt := 137) (pc' := 112) hX dL_build_109 (by decide) rfl (by omega) (by omega) (fun c109 => ?_) (fun c109 => ?_)
                  · refine r_iconst (pc' := 138) (v := nI 1) hX dL_build_137 rfl rfl ?_
                    refine r_istore_n (L' := [some (.ref (sa 90)), some (.ref f), some (.int z), some (.int (nI 1)), none, none, none]) (pc' := 139) hX dL_build_138 (nlt hnL (by decide)) rfl rfl rfl ?_
                    have loop139 : ∀ (n9 : Nat) (j : Nat) (w9 : va_W), 12 + 1 - j < n9 → (j ≤ 12) → (FS cy f (bC (atS sa) z j) w9) → V X (363 + 9 * j) (2230 + 54 * j) (w9) [some (.ref (sa 90)), some (.ref f), some (.int z), some (.int (nI (j + 1))), none, none, none] [] 139 := by
                      intro n9
                      induction n9 with
                      | zero => intro j w9 hm; exact absurd hm (Nat.not_lt_zero _)
                      | succ n9 ih139 =>
                        intro j w9 hm hj hF9
                        refine r_iload_n (pc' := 140) hX dL_build_139 rfl rfl ?_
                        refine r_bipush (pc' := 142) (v := nI 13) hX dL_build_140 rfl rfl ?_
                        refine r_icmp_ge_N (tgt := 424) (pc' := 145) hX dL_build_142 (by decide) rfl (by omega) (by omega) (fun c142 => ?_) (fun c142 => ?_)
                        · refine r_aload_n (pc' := 425) hX dL_build_424 rfl rfl ?_
                          exact r_areturn hX hE dL_build_425 rfl (Or.inl ⟨_, rfl⟩) (Or.inr ⟨_, rfl⟩) ⟨_, rfl, by unfold BLD; rw [← hz]; rw [show j = 12 by omega] at hF9; exact hF9⟩ (by omega) (by omega)
                        · obtain ⟨S, hS⟩ : ∃ S, S = bC (atS sa) z j := ⟨_, rfl⟩
                          obtain ⟨c, hc⟩ : ∃ c, c = atS sa (j + 1) := ⟨_, rfl⟩
                          have hJ := J_bC (g := atS sa) (z := z) j (by omega)
                          rw [← hS] at hF9 hJ
                          have hJ1 := J1 (c := c) hJ
                          have hJ2 := J2 (c := c) hJ1 (by omega)
                          have hG1 := hJ1.2.1
                          have hW1 := hJ1.1.1.1.1.1.1
                          refine r_aload_n (pc' := 146) hX dL_build_145 rfl rfl ?_
                          refine r_iload_n (pc' := 147) hX dL_build_146 rfl rfl ?_
                          refine V_calln (k' := 363 + 9 * j) (n' := 2230 + 54 * j) (pc' := 150) hX (r_runS (As := [.ref (sa 90), .int (nI (j + 1))]) hX dL_build_147 k_L_24 (fun l9 hl9 => cW_at (by omega)) hG rfl rfl (Nat.le_of_ble_eq_true rfl) (by decide) (by decide) (by omega) (by omega)) (by omega) (by omega) rfl (fun w9 hp9 => ?_)
                          obtain rfl := hp9
                          rw [← hc]
                          change V X (363 + 9 * j) (2230 + 54 * j) (w9) [some (.ref (sa 90)), some (.ref f), some (.int z), some (.int (nI (j + 1))), none, none, none] [.int c] 150
                          refine r_istore (L' := [some (.ref (sa 90)), some (.ref f), some (.int z), some (.int (nI (j + 1))), some (.int c), none, none]) (pc' := 152) hX dL_build_150 (nlt hnL (by decide)) rfl rfl rfl ?_
                          refine r_aload_n (pc' := 153) hX dL_build_152 rfl rfl ?_
                          refine r_iconst (pc' := 154) (v := nI 2) hX dL_build_153 rfl rfl ?_
                          refine r_iload (pc' := 156) hX dL_build_154 rfl rfl ?_
                          refine r_iconst (pc' := 157) (v := nI 3) hX dL_build_156 rfl rfl ?_
                          refine r_iand (pc' := 158) hX dL_build_157 rfl ?_
                          rw [bt_and c 3]
                          have hbt157 := bt_le c 3
                          refine r_iconst (pc' := 159) (v := nI 3) hX dL_build_158 rfl rfl ?_
                          refine r_irem_N (pc' := 160) hX dL_build_159 (by omega) (by omega) (by omega) rfl ?_
                          refine r_iconst (pc' := 161) (v := nI 1) hX dL_build_160 rfl rfl ?_
                          refine r_iload (pc' := 163) hX dL_build_161 rfl rfl ?_
                          refine r_iconst (pc' := 164) (v := nI 2) hX dL_build_163 rfl rfl ?_
                          refine r_ishr (pc' := 165) hX dL_build_164 rfl ?_
                          change V X (363 + 9 * j) (2230 + 54 * j) (w9) [some (.ref (sa 90)), some (.ref f), some (.int z), some (.int (nI (j + 1))), some (.int c), none, none] [.int (shr c (nI 2)), .int (nI 1), .int (nI ((bt c 3) % 3)), .int (nI 2), .ref f] 165
                          refine r_bipush (pc' := 167) (v := nI 63) hX dL_build_165 rfl rfl ?_
                          refine r_iand (pc' := 168) hX dL_build_167 rfl ?_
                          rw [bt_and (shr c (nI 2)) 63]
                          have hbt167 := bt_le (shr c (nI 2)) 63
                          refine r_iadd_N (pc' := 169) hX dL_build_168  rfl ?_
                          refine r_iconst (pc' := 170) (v := nI 0) hX dL_build_169 rfl rfl ?_
                          refine V_call0 (k' := 363 + 9 * j + 1) (n' := 2230 + 54 * j + 6) (pc' := 173) hX (r_runSW (As := [.ref f, .int (nI 2), .int (nI ((bt c 3) % 3)), .int (nI (1 + (bt (shr c (nI 2)) 63))), .int (nI 0)]) hX dL_build_170 kw_L_30 (fun l9 hl9 => by cases hl9; exact cA_2 (S := S) (a := nI ((bt c 3) % 3)) (b := nI (1 + (bt (shr c (nI 2)) 63))) (c := nI 0) hF9 (hJ.1) (hst := (by rw [hl]; exact hst))) hG rfl rfl (Nat.le_of_ble_eq_true rfl) (by decide) (by decide) (by omega) (by omega)) (by omega) (by omega) rfl (fun w9 u30 hp9 => ?_)
                          obtain ⟨rfl, hF30⟩ := hp9
                          change V X (363 + 9 * j + 1) (2230 + 54 * j + 6) (u30) [some (.ref (sa 90)), some (.ref f), some (.int z), some (.int (nI (j + 1))), some (.int c), none, none] [.int ((oBuy S.1 (nI ((bt c 3) % 3)) (nI (1 + (bt (shr c (nI 2)) 63)))).1)] 173
                          refine r_pop (pc' := 174) hX dL_build_173 rfl rfl ?_
                          refine r_aload_n (pc' := 175) hX dL_build_174 rfl rfl ?_
                          refine r_iconst (pc' := 176) (v := nI 3) hX dL_build_175 rfl rfl ?_
                          refine r_iload (pc' := 178) hX dL_build_176 rfl rfl ?_
                          refine r_bipush (pc' := 180) (v := nI 8) hX dL_build_178 rfl rfl ?_
                          refine r_ishr (pc' := 181) hX dL_build_180 rfl ?_
                          change V X (363 + 9 * j + 1) (2230 + 54 * j + 6) (u30) [some (.ref (sa 90)), some (.ref f), some (.int z), some (.int (nI (j + 1))), some (.int c), none, none] [.int (shr c (nI 8)), .int (nI 3), .ref f] 181
                          refine r_bipush (pc' := 183) (v := nI 7) hX dL_build_181 rfl rfl ?_
                          refine r_iand (pc' := 184) hX dL_build_183 rfl ?_
                          rw [bt_and (shr c (nI 8)) 7]
                          have hbt183 := bt_le (shr c (nI 8)) 7
                          refine r_aload_n (pc' := 185) hX dL_build_184 rfl rfl ?_
                          refine V_call0 (k' := 363 + 9 * j + 1) (n' := 2230 + 54 * j + 6) (pc' := 188) hX (r_runV (As := []) hX dL_build_185 k_L_34 (fun l9 hl9 => cF_alloyCount (v := (s1 c S).1) rfl hF30 (hJ1.1).1) hG (FS_recv hF30) rfl rfl (Nat.le_of_ble_eq_true rfl) (by decide) (by decide) (by omega) (by omega)) (by omega) (by omega) rfl (fun w9 u31 hp9 => ?_)
                          obtain ⟨okq, rfl, hF31⟩ := hp9
                          change V X (363 + 9 * j + 1) (2230 + 54 * j + 6) (u31) [some (.ref (sa 90)), some (.ref f), some (.int z), some (.int (nI (j + 1))), some (.int c), none, none] [.int (nI ((s1 c S).1 0 0)), .int (nI (bt (shr c (nI 8)) 7)), .int (nI 3), .ref f] 188
                          refine r_irem_N (pc' := 189) hX dL_build_188 (by omega) (by omega) (by omega) rfl ?_
                          refine r_iload (pc' := 191) hX dL_build_189 rfl rfl ?_
                          refine r_bipush (pc' := 193) (v := nI 11) hX dL_build_191 rfl rfl ?_
                          refine r_ishr (pc' := 194) hX dL_build_193 rfl ?_
                          change V X (363 + 9 * j + 1) (2230 + 54 * j + 6) (u31) [some (.ref (sa 90)), some (.ref f), some (.int z), some (.int (nI (j + 1))), some (.int c), none, none] [.int (shr c (nI 11)), .int (nI ((bt (shr c (nI 8)) 7) % ((s1 c S).1 0 0))), .int (nI 3), .ref f] 194
                          refine r_iconst (pc' := 195) (v := nI 1) hX dL_build_194 rfl rfl ?_
                          refine r_iand (pc' := 196) hX dL_build_195 rfl ?_
                          rw [bt_and (shr c (nI 11)) 1]
                          have hbt195 := bt_le (shr c (nI 11)) 1
                          refine r_iconst (pc' := 197) (v := nI 1) hX dL_build_196 rfl rfl ?_
                          refine r_iload (pc' := 199) hX dL_build_197 rfl rfl ?_
                          refine r_bipush (pc' := 201) (v := nI 12) hX dL_build_199 rfl rfl ?_
                          refine r_ishr (pc' := 202) hX dL_build_201 rfl ?_
                          change V X (363 + 9 * j + 1) (2230 + 54 * j + 6) (u31) [some (.ref (sa 90)), some (.ref f), some (.int z), some (.int (nI (j + 1))), some (.int c), none, none] [.int (shr c (nI 12)), .int (nI 1), .int (nI (bt (shr c (nI 11)) 1)), .int (nI ((bt (shr c (nI 8)) 7) % ((s1 c S).1 0 0))), .int (nI 3), .ref f] 202
                          refine r_bipush (pc' := 204) (v := nI 7) hX dL_build_202 rfl rfl ?_
                          refine r_iand (pc' := 205) hX dL_build_204 rfl ?_
                          rw [bt_and (shr c (nI 12)) 7]
                          have hbt204 := bt_le (shr c (nI 12)) 7
                          refine r_iadd_N (pc' := 206) hX dL_build_205  rfl ?_
                          refine V_call0 (k' := 363 + 9 * j + 1 + 1) (n' := 2230 + 54 * j + 6 + 6) (pc' := 209) hX (r_runSW (As := [.ref f, .int (nI 3), .int (nI ((bt (shr c (nI 8)) 7) % ((s1 c S).1 0 0))), .int (nI (bt (shr c (nI 11)) 1)), .int (nI (1 + (bt (shr c (nI 12)) 7)))]) hX dL_build_206 kw_L_30 (fun l9 hl9 => by cases hl9; exact cA_3 (S := (s1 c S)) (a := nI ((bt (shr c (nI 8)) 7) % ((s1 c S).1 0 0))) (b := nI (bt (shr c (nI 11)) 1)) (c := nI (1 + (bt (shr c (nI 12)) 7))) hF31 (hJ1.1) (hst := (by rw [hl]; exact hst))) hG rfl rfl (Nat.le_of_ble_eq_true rfl) (by decide) (by decide) (by omega) (by omega)) (by omega) (by omega) rfl (fun w9 u32 hp9 => ?_)
                          obtain ⟨rfl, hF32⟩ := hp9
                          change V X (363 + 9 * j + 1 + 1) (2230 + 54 * j + 6 + 6) (u32) [some (.ref (sa 90)), some (.ref f), some (.int z), some (.int (nI (j + 1))), some (.int c), none, none] [.int ((oPour (s1 c S).1 (nI ((bt (shr c (nI 8)) 7) % ((s1 c S).1 0 0))) (nI (bt (shr c (nI 11)) 1)) (nI (1 + (bt (shr c (nI 12)) 7)))).1)] 209
                          obtain ⟨T, hTe⟩ : ∃ T, T = s2 c (s1 c S) := ⟨_, rfl⟩
                          have hFT : FS cy f T u32 := hTe ▸ hF32
                          have hJT : AJ (14 + 8 * j + 1 + 1) T ∧ Gd T := hTe ▸ hJ2
                          have hWT := hJT.1.1.1.1.1
                          have hT8 := hWT.2.2.1
                          refine r_pop (pc' := 210) hX dL_build_209 rfl rfl ?_
                          refine r_aload_n (pc' := 211) hX dL_build_210 rfl rfl ?_
                          refine V_call0 (k' := 363 + 9 * j + 1 + 1) (n' := 2230 + 54 * j + 6 + 6) (pc' := 214) hX (r_runV (As := []) hX dL_build_211 k_L_37 (fun l9 hl9 => cF_batchCount (v := T.1) rfl hFT (hJT.1).1) hG (FS_recv hFT) rfl rfl (Nat.le_of_ble_eq_true rfl) (by decide) (by decide) (by omega) (by omega)) (by omega) (by omega) rfl (fun w9 u33 hp9 => ?_)
                          obtain ⟨okq, rfl, hF33⟩ := hp9
                          change V X (363 + 9 * j + 1 + 1) (2230 + 54 * j + 6 + 6) (u33) [some (.ref (sa 90)), some (.ref f), some (.int z), some (.int (nI (j + 1))), some (.int c), none, none] [.int (nI (T.1 0 4))] 214
                          refine r_istore (L' := [some (.ref (sa 90)), some (.ref f), some (.int z), some (.int (nI (j + 1))), some (.int c), some (.int (nI (T.1 0 4))), none]) (pc' := 216) hX dL_build_214 (nlt hnL (by decide)) rfl rfl rfl ?_
                          refine r_iload (pc' := 218) hX dL_build_216 rfl rfl ?_
                          have join240 : ∀ (b9 : Nat) (w9 : va_W), (b9 = bnO c T) → (FS cy f T w9) → V X (363 + 9 * j + 3) (2230 + 54 * j + 18) (w9) [some (.ref (sa 90)), some (.ref f), some (.int z), some (.int (nI (j + 1))), some (.int c), some (.int (nI (T.1 0 4))), none] [.int (nI b9)] 240 := by
                            intro b9 w9 hb9 hF9
                            have hJ3 := J3 (c := c) (b := b9) hJT (by omega)
                            have hJ4 := J4 (c := c) (b := b9) hJ3 (by omega)
                            have hJ5 := J5 (c := c) hJ4
                            have hJ6 := J6 (c := c) hJ5
                            have hJ7 := J7 (c := c) hJ6
                            have hJ8 := J8 (c := c) hJ7
                            refine r_istore (L' := [some (.ref (sa 90)), some (.ref f), some (.int z), some (.int (nI (j + 1))), some (.int c), some (.int (nI (T.1 0 4))), some (.int (nI b9))]) (pc' := 242) hX dL_build_240 (nlt hnL (by decide)) rfl rfl rfl ?_
                            refine r_iload (pc' := 244) hX dL_build_242 rfl rfl ?_
                            refine r_bipush (pc' := 246) (v := nI 18) hX dL_build_244 rfl rfl ?_
                            refine r_ishr (pc' := 247) hX dL_build_246 rfl ?_
                            change V X (363 + 9 * j + 3) (2230 + 54 * j + 18) (w9) [some (.ref (sa 90)), some (.ref f), some (.int z), some (.int (nI (j + 1))), some (.int c), some (.int (nI (T.1 0 4))), some (.int (nI b9))] [.int (shr c (nI 18))] 247
                            refine r_iconst (pc' := 248) (v := nI 1) hX dL_build_247 rfl rfl ?_
                            refine r_iand (pc' := 249) hX dL_build_248 rfl ?_
                            rw [bt_and (shr c (nI 18)) 1]
                            have hbt248 := bt_le (shr c (nI 18)) 1
                            have join262 : ∀ (w9 : va_W), (FS cy f (s3 c b9 T) w9) → V X (363 + 9 * j + 4) (2230 + 54 * j + 24) (w9) [some (.ref (sa 90)), some (.ref f), some (.int z), some (.int (nI (j + 1))), some (.int c), some (.int (nI (T.1 0 4))), some (.int (nI b9))] [] 262 := by
                              intro w9 hF9
                              refine r_iload (pc' := 264) hX dL_build_262 rfl rfl ?_
                              refine r_bipush (pc' := 266) (v := nI 18) hX dL_build_264 rfl rfl ?_
                              refine r_ishr (pc' := 267) hX dL_build_266 rfl ?_
                              change V X (363 + 9 * j + 4) (2230 + 54 * j + 24) (w9) [some (.ref (sa 90)), some (.ref f), some (.int z), some (.int (nI (j + 1))), some (.int c), some (.int (nI (T.1 0 4))), some (.int (nI b9))] [.int (shr c (nI 18))] 267
                              refine r_iconst (pc' := 268) (v := nI 3) hX dL_build_267 rfl rfl ?_
                              refine r_iand (pc' := 269) hX dL_build_268 rfl ?_
                              rw [bt_and (shr c (nI 18)) 3]
                              have hbt268 := bt_le (shr c (nI 18)) 3
                              refine r_iconst (pc' := 270) (v := nI 1) hX dL_build_269 rfl rfl ?_
                              have join283 : ∀ (w9 : va_W), (FS cy f (s4 c b9 (s3 c b9 T)) w9) → V X (363 + 9 * j + 5) (2230 + 54 * j + 30) (w9) [some (.ref (sa 90)), some (.ref f), some (.int z), some (.int (nI (j + 1))), some (.int c), some (.int (nI (T.1 0 4))), some (.int (nI b9))] [] 283 := by
                                intro w9 hF9
                                refine r_iload (pc' := 285) hX dL_build_283 rfl rfl ?_
                                refine r_bipush (pc' := 287) (v := nI 20) hX dL_build_285 rfl rfl ?_
                                refine r_ishr (pc' := 288) hX dL_build_287 rfl ?_
                                change V X (363 + 9 * j + 5) (2230 + 54 * j + 30) (w9) [some (.ref (sa 90)), some (.ref f), some (.int z), some (.int (nI (j + 1))), some (.int c), some (.int (nI (T.1 0 4))), some (.int (nI b9))] [.int (shr c (nI 20))] 288
                                refine r_iconst (pc' := 289) (v := nI 3) hX dL_build_288 rfl rfl ?_
                                refine r_iand (pc' := 290) hX dL_build_289 rfl ?_
                                rw [bt_and (shr c (nI 20)) 3]
                                have hbt289 := bt_le (shr c (nI 20)) 3
                                have join309 : ∀ (w9 : va_W), (FS cy f (s5 c (s4 c b9 (s3 c b9 T))) w9) → V X (363 + 9 * j + 6) (2230 + 54 * j + 36) (w9) [some (.ref (sa 90)), some (.ref f), some (.int z), some (.int (nI (j + 1))), some (.int c), some (.int (nI (T.1 0 4))), some (.int (nI b9))] [] 309 := by
                                  intro w9 hF9
                                  refine r_iload (pc' := 311) hX dL_build_309 rfl rfl ?_
                                  refine r_bipush (pc' := 313) (v := nI 20) hX dL_build_311 rfl rfl ?_
                                  refine r_ishr (pc' := 314) hX dL_build_313 rfl ?_
                                  change V X (363 + 9 * j + 6) (2230 + 54 * j + 36) (w9) [some (.ref (sa 90)), some (.ref f), some (.int z), some (.int (nI (j + 1))), some (.int c), some (.int (nI (T.1 0 4))), some (.int (nI b9))] [.int (shr c (nI 20))] 314
                                  refine r_bipush (pc' := 316) (v := nI 7) hX dL_build_314 rfl rfl ?_
                                  refine r_iand (pc' := 317) hX dL_build_316 rfl ?_
                                  rw [bt_and (shr c (nI 20)) 7]
                                  have hbt316 := bt_le (shr c (nI 20)) 7
                                  refine r_iconst (pc' := 318) (v := nI 1) hX dL_build_317 rfl rfl ?_
                                  have join341 : ∀ (w9 : va_W), (FS cy f (s6 c (s5 c (s4 c b9 (s3 c b9 T)))) w9) → V X (363 + 9 * j + 7) (2230 + 54 * j + 42) (w9) [some (.ref (sa 90)), some (.ref f), some (.int z), some (.int (nI (j + 1))), some (.int c), some (.int (nI (T.1 0 4))), some (.int (nI b9))] [] 341 := by
                                    intro w9 hF9
                                    refine r_iload (pc' := 343) hX dL_build_341 rfl rfl ?_
                                    refine r_bipush (pc' := 345) (v := nI 20) hX dL_build_343 rfl rfl ?_
                                    refine r_ishr (pc' := 346) hX dL_build_345 rfl ?_
                                    change V X (363 + 9 * j + 7) (2230 + 54 * j + 42) (w9) [some (.ref (sa 90)), some (.ref f), some (.int z), some (.int (nI (j + 1))), some (.int c), some (.int (nI (T.1 0 4))), some (.int (nI b9))] [.int (shr c (nI 20))] 346
                                    refine r_bipush (pc' := 348) (v := nI 7) hX dL_build_346 rfl rfl ?_
                                    refine r_iand (pc' := 349) hX dL_build_348 rfl ?_
                                    rw [bt_and (shr c (nI 20)) 7]
                                    have hbt348 := bt_le (shr c (nI 20)) 7
                                    refine r_iconst (pc' := 350) (v := nI 2) hX dL_build_349 rfl rfl ?_
                                    have join374 : ∀ (w9 : va_W), (FS cy f (s7 c (s6 c (s5 c (s4 c b9 (s3 c b9 T))))) w9) → V X (363 + 9 * j + 8) (2230 + 54 * j + 48) (w9) [some (.ref (sa 90)), some (.ref f), some (.int z), some (.int (nI (j + 1))), some (.int c), some (.int (nI (T.1 0 4))), some (.int (nI b9))] [] 374 := by
                                      intro w9 hF9
                                      refine r_iload (pc' := 376) hX dL_build_374 rfl rfl ?_
                                      refine r_bipush (pc' := 378) (v := nI 20) hX dL_build_376 rfl rfl ?_
                                      refine r_ishr (pc' := 379) hX dL_build_378 rfl ?_
                                      change V X (363 + 9 * j + 8) (2230 + 54 * j + 48) (w9) [some (.ref (sa 90)), some (.ref f), some (.int z), some (.int (nI (j + 1))), some (.int c), some (.int (nI (T.1 0 4))), some (.int (nI b9))] [.int (shr c (nI 20))] 379
                                      refine r_bipush (pc' := 381) (v := nI 7) hX dL_build_379 rfl rfl ?_
                                      refine r_iand (pc' := 382) hX dL_build_381 rfl ?_
                                      rw [bt_and (shr c (nI 20)) 7]
                                      have hbt381 := bt_le (shr c (nI 20)) 7
                                      refine r_iconst (pc' := 383) (v := nI 3) hX dL_build_382 rfl rfl ?_
                                      have join418 : ∀ (w9 : va_W), (FS cy f (s8 c (s7 c (s6 c (s5 c (s4 c b9 (s3 c b9 T)))))) w9) → V X (363 + 9 * j + 9) (2230 + 54 * j + 54) (w9) [some (.ref (sa 90)), some (.ref f), some (.int z), some (.int (nI (j + 1))), some (.int c), some (.int (nI (T.1 0 4))), some (.int (nI b9))] [] 418 := by
                                        intro w9 hF9
                                        refine r_iinc_N (b := 1) (L' := [some (.ref (sa 90)), some (.ref f), some (.int z), some (.int (nI (j + 1 + 1))), some (.int c), some (.int (nI (T.1 0 4))), some (.int (nI b9))]) (pc' := 421) hX dL_build_418 rfl (nlt hnL (by decide)) rfl rfl rfl ?_
                                        refine r_goto (tgt := 139) hX dL_build_421 (by decide) ?_
                                        refine V_widen (k' := 363 + 9 * (j + 1)) (n' := 2230 + 54 * (j + 1)) (by omega) (by omega) ?_
                                        refine V_loc (L' := [some (.ref (sa 90)), some (.ref f), some (.int z), some (.int (nI (j + 1 + 1))), none, none, none]) (lo_w ⟨.inr rfl, .inr rfl, .inr rfl, .inr rfl, .inl rfl, .inl rfl, .inl rfl, trivial⟩) ?_
                                        exact ih139 (j + 1) w9 (by omega) (by omega) (by
                                          subst hTe
                                          subst hb9
                                          show FS cy f (sI (atS sa (j + 1)) (bC (atS sa) z j)) _
                                          rw [← hc, ← hS]
                                          exact hF9)
                                      refine r_icmp_ne_N (tgt := 418) (pc' := 386) hX dL_build_383 (by decide) rfl (by omega) (by omega) (fun c383 => ?_) (fun c383 => ?_)
                                      · refine V_widen (k' := 363 + 9 * j + 9) (n' := 2230 + 54 * j + 54) (by omega) (by omega) ?_
                                        exact join418 w9 (by unfold s8; first | (rw [if_pos (by omega)]; exact hF9) | (rw [if_neg (by omega)]; exact hF9))
                                      · refine r_aload_n (pc' := 387) hX dL_build_386 rfl rfl ?_
                                        refine r_iconst (pc' := 388) (v := nI 0) hX dL_build_387 rfl rfl ?_
                                        refine r_iload (pc' := 390) hX dL_build_388 rfl rfl ?_
                                        refine r_bipush (pc' := 392) (v := nI 23) hX dL_build_390 rfl rfl ?_
                                        refine r_ishr (pc' := 393) hX dL_build_392 rfl ?_
                                        change V X (363 + 9 * j + 8) (2230 + 54 * j + 48) (w9) [some (.ref (sa 90)), some (.ref f), some (.int z), some (.int (nI (j + 1))), some (.int c), some (.int (nI (T.1 0 4))), some (.int (nI b9))] [.int (shr c (nI 23)), .int (nI 0), .ref f] 393
                                        refine r_bipush (pc' := 395) (v := nI 15) hX dL_build_393 rfl rfl ?_
                                        refine r_iand (pc' := 396) hX dL_build_395 rfl ?_
                                        rw [bt_and (shr c (nI 23)) 15]
                                        have hbt395 := bt_le (shr c (nI 23)) 15
                                        refine r_bipush (pc' := 398) (v := nI 10) hX dL_build_396 rfl rfl ?_
                                        refine r_irem_N (pc' := 399) hX dL_build_398 (by omega) (by omega) (by omega) rfl ?_
                                        refine r_iload (pc' := 401) hX dL_build_399 rfl rfl ?_
                                        refine r_bipush (pc' := 403) (v := nI 25) hX dL_build_401 rfl rfl ?_
                                        refine r_ishr (pc' := 404) hX dL_build_403 rfl ?_
                                        change V X (363 + 9 * j + 8) (2230 + 54 * j + 48) (w9) [some (.ref (sa 90)), some (.ref f), some (.int z), some (.int (nI (j + 1))), some (.int c), some (.int (nI (T.1 0 4))), some (.int (nI b9))] [.int (shr c (nI 25)), .int (nI ((bt (shr c (nI 23)) 15) % 10)), .int (nI 0), .ref f] 404
                                        refine r_bipush (pc' := 406) (v := nI 7) hX dL_build_404 rfl rfl ?_
                                        refine r_iand (pc' := 407) hX dL_build_406 rfl ?_
                                        rw [bt_and (shr c (nI 25)) 7]
                                        have hbt406 := bt_le (shr c (nI 25)) 7
                                        refine r_iload (pc' := 409) hX dL_build_407 rfl rfl ?_
                                        refine r_bipush (pc' := 411) (v := nI 27) hX dL_build_409 rfl rfl ?_
                                        refine r_ishr (pc' := 412) hX dL_build_411 rfl ?_
                                        change V X (363 + 9 * j + 8) (2230 + 54 * j + 48) (w9) [some (.ref (sa 90)), some (.ref f), some (.int z), some (.int (nI (j + 1))), some (.int c), some (.int (nI (T.1 0 4))), some (.int (nI b9))] [.int (shr c (nI 27)), .int (nI (bt (shr c (nI 25)) 7)), .int (nI ((bt (shr c (nI 23)) 15) % 10)), .int (nI 0), .ref f] 412
                                        refine r_iconst (pc' := 413) (v := nI 3) hX dL_build_412 rfl rfl ?_
                                        refine r_iand (pc' := 414) hX dL_build_413 rfl ?_
                                        rw [bt_and (shr c (nI 27)) 3]
                                        have hbt413 := bt_le (shr c (nI 27)) 3
                                        refine V_call0 (k' := 363 + 9 * j + 8 + 1) (n' := 2230 + 54 * j + 48 + 6) (pc' := 417) hX (r_runSW (As := [.ref f, .int (nI 0), .int (nI ((bt (shr c (nI 23)) 15) % 10)), .int (nI (bt (shr c (nI 25)) 7)), .int (nI (bt (shr c (nI 27)) 3))]) hX dL_build_414 kw_L_30 (fun l9 hl9 => by cases hl9; exact cA_0 (S := (s7 c (s6 c (s5 c (s4 c b9 (s3 c b9 T)))))) (a := nI ((bt (shr c (nI 23)) 15) % 10)) (b := nI (bt (shr c (nI 25)) 7)) (c := nI (bt (shr c (nI 27)) 3)) hF9 (hJ7.1) (hst := (by rw [hl]; exact hst))) hG rfl rfl (Nat.le_of_ble_eq_true rfl) (by decide) (by decide) (by omega) (by omega)) (by omega) (by omega) rfl (fun w9 u34 hp9 => ?_)
                                        obtain ⟨rfl, hF34⟩ := hp9
                                        change V X (363 + 9 * j + 8 + 1) (2230 + 54 * j + 48 + 6) (u34) [some (.ref (sa 90)), some (.ref f), some (.int z), some (.int (nI (j + 1))), some (.int c), some (.int (nI (T.1 0 4))), some (.int (nI b9))] [.int ((oMix (s7 c (s6 c (s5 c (s4 c b9 (s3 c b9 T))))).1 (nI ((bt (shr c (nI 23)) 15) % 10)) (nI (bt (shr c (nI 25)) 7)) (nI (bt (shr c (nI 27)) 3))).1)] 417
                                        refine r_pop (pc' := 418) hX dL_build_417 rfl rfl ?_
                                        refine V_widen (k' := 363 + 9 * j + 9) (n' := 2230 + 54 * j + 54) (by omega) (by omega) ?_
                                        exact join418 u34 (by unfold s8; first | (rw [if_pos (by omega)]; exact hF34) | (rw [if_neg (by omega)]; exact hF34))
                                    refine r_icmp_ne_N (tgt := 374) (pc' := 353) hX dL_build_350 (by decide) rfl (by omega) (by omega) (fun c350 => ?_) (fun c350 => ?_)
                                    · refine V_widen (k' := 363 + 9 * j + 8) (n' := 2230 + 54 * j + 48) (by omega) (by omega) ?_
                                      exact join374 w9 (by unfold s7; first | (rw [if_pos (by omega)]; exact hF9) | (rw [if_neg (by omega)]; exact hF9))
                                    · refine r_aload_n (pc' := 354) hX dL_build_353 rfl rfl ?_
                                      refine r_bipush (pc' := 356) (v := nI 8) hX dL_build_354 rfl rfl ?_
                                      refine r_iconst (pc' := 357) (v := nI 1) hX dL_build_356 rfl rfl ?_
                                      refine r_iload (pc' := 359) hX dL_build_357 rfl rfl ?_
                                      refine r_bipush (pc' := 361) (v := nI 23) hX dL_build_359 rfl rfl ?_
                                      refine r_ishr (pc' := 362) hX dL_build_361 rfl ?_
                                      change V X (363 + 9 * j + 7) (2230 + 54 * j + 42) (w9) [some (.ref (sa 90)), some (.ref f), some (.int z), some (.int (nI (j + 1))), some (.int c), some (.int (nI (T.1 0 4))), some (.int (nI b9))] [.int (shr c (nI 23)), .int (nI 1), .int (nI 8), .ref f] 362
                                      refine r_bipush (pc' := 364) (v := nI 7) hX dL_build_362 rfl rfl ?_
                                      refine r_iand (pc' := 365) hX dL_build_364 rfl ?_
                                      rw [bt_and (shr c (nI 23)) 7]
                                      have hbt364 := bt_le (shr c (nI 23)) 7
                                      refine r_iconst (pc' := 366) (v := nI 5) hX dL_build_365 rfl rfl ?_
                                      refine r_irem_N (pc' := 367) hX dL_build_366 (by omega) (by omega) (by omega) rfl ?_
                                      refine r_iadd_N (pc' := 368) hX dL_build_367  rfl ?_
                                      refine r_iconst (pc' := 369) (v := nI 0) hX dL_build_368 rfl rfl ?_
                                      refine r_iconst (pc' := 370) (v := nI 0) hX dL_build_369 rfl rfl ?_
                                      refine V_call0 (k' := 363 + 9 * j + 7 + 1) (n' := 2230 + 54 * j + 42 + 6) (pc' := 373) hX (r_runSW (As := [.ref f, .int (nI 8), .int (nI (1 + ((bt (shr c (nI 23)) 7) % 5))), .int (nI 0), .int (nI 0)]) hX dL_build_370 kw_L_30 (fun l9 hl9 => by cases hl9; exact cA_8 (S := (s6 c (s5 c (s4 c b9 (s3 c b9 T))))) (a := nI (1 + ((bt (shr c (nI 23)) 7) % 5))) (b := nI 0) (c := nI 0) hF9 (hJ6.1) (hst := (by rw [hl]; exact hst))) hG rfl rfl (Nat.le_of_ble_eq_true rfl) (by decide) (by decide) (by omega) (by omega)) (by omega) (by omega) rfl (fun w9 u35 hp9 => ?_)
                                      obtain ⟨rfl, hF35⟩ := hp9
                                      change V X (363 + 9 * j + 7 + 1) (2230 + 54 * j + 42 + 6) (u35) [some (.ref (sa 90)), some (.ref f), some (.int z), some (.int (nI (j + 1))), some (.int c), some (.int (nI (T.1 0 4))), some (.int (nI b9))] [.int ((oStep (s6 c (s5 c (s4 c b9 (s3 c b9 T)))).1 (nI (1 + ((bt (shr c (nI 23)) 7) % 5)))).1)] 373
                                      refine r_pop (pc' := 374) hX dL_build_373 rfl rfl ?_
                                      refine V_widen (k' := 363 + 9 * j + 8) (n' := 2230 + 54 * j + 48) (by omega) (by omega) ?_
                                      exact join374 u35 (by unfold s7; first | (rw [if_pos (by omega)]; exact hF35) | (rw [if_neg (by omega)]; exact hF35))
                                  refine r_icmp_ne_N (tgt := 341) (pc' := 321) hX dL_build_318 (by decide) rfl (by omega) (by omega) (fun c318 => ?_) (fun c318 => ?_)
                                  · refine V_widen (k' := 363 + 9 * j + 7) (n' := 2230 + 54 * j + 42) (by omega) (by omega) ?_
                                    exact join341 w9 (by unfold s6; first | (rw [if_pos (by omega)]; exact hF9) | (rw [if_neg (by omega)]; exact hF9))
                                  · refine r_aload_n (pc' := 322) hX dL_build_321 rfl rfl ?_
                                    refine r_bipush (pc' := 324) (v := nI 7) hX dL_build_322 rfl rfl ?_
                                    refine r_iload (pc' := 326) hX dL_build_324 rfl rfl ?_
                                    refine r_bipush (pc' := 328) (v := nI 23) hX dL_build_326 rfl rfl ?_
                                    refine r_ishr (pc' := 329) hX dL_build_328 rfl ?_
                                    change V X (363 + 9 * j + 6) (2230 + 54 * j + 36) (w9) [some (.ref (sa 90)), some (.ref f), some (.int z), some (.int (nI (j + 1))), some (.int c), some (.int (nI (T.1 0 4))), some (.int (nI b9))] [.int (shr c (nI 23)), .int (nI 7), .ref f] 329
                                    refine r_bipush (pc' := 331) (v := nI 127) hX dL_build_329 rfl rfl ?_
                                    refine r_iand (pc' := 332) hX dL_build_331 rfl ?_
                                    rw [bt_and (shr c (nI 23)) 127]
                                    have hbt331 := bt_le (shr c (nI 23)) 127
                                    refine r_bipush (pc' := 334) (v := nI 100) hX dL_build_332 rfl rfl ?_
                                    refine r_irem_N (pc' := 335) hX dL_build_334 (by omega) (by omega) (by omega) rfl ?_
                                    refine r_iconst (pc' := 336) (v := nI 0) hX dL_build_335 rfl rfl ?_
                                    refine r_iconst (pc' := 337) (v := nI 0) hX dL_build_336 rfl rfl ?_
                                    refine V_call0 (k' := 363 + 9 * j + 6 + 1) (n' := 2230 + 54 * j + 36 + 6) (pc' := 340) hX (r_runSW (As := [.ref f, .int (nI 7), .int (nI ((bt (shr c (nI 23)) 127) % 100)), .int (nI 0), .int (nI 0)]) hX dL_build_337 kw_L_30 (fun l9 hl9 => by cases hl9; exact cA_7 (S := (s5 c (s4 c b9 (s3 c b9 T)))) (a := nI ((bt (shr c (nI 23)) 127) % 100)) (b := nI 0) (c := nI 0) hF9 (hJ5.1) (hst := (by rw [hl]; exact hst))) hG rfl rfl (Nat.le_of_ble_eq_true rfl) (by decide) (by decide) (by omega) (by omega)) (by omega) (by omega) rfl (fun w9 u36 hp9 => ?_)
                                    obtain ⟨rfl, hF36⟩ := hp9
                                    change V X (363 + 9 * j + 6 + 1) (2230 + 54 * j + 36 + 6) (u36) [some (.ref (sa 90)), some (.ref f), some (.int z), some (.int (nI (j + 1))), some (.int c), some (.int (nI (T.1 0 4))), some (.int (nI b9))] [.int ((oTol (s5 c (s4 c b9 (s3 c b9 T))).1 (nI ((bt (shr c (nI 23)) 127) % 100))).1)] 340
                                    refine r_pop (pc' := 341) hX dL_build_340 rfl rfl ?_
                                    refine V_widen (k' := 363 + 9 * j + 7) (n' := 2230 + 54 * j + 42) (by omega) (by omega) ?_
                                    exact join341 u36 (by unfold s6; first | (rw [if_pos (by omega)]; exact hF36) | (rw [if_neg (by omega)]; exact hF36))
                                refine r_if_ne_N (tgt := 309) (pc' := 293) hX dL_build_290 (by decide) rfl (by omega) (fun c290 => ?_) (fun c290 => ?_)
                                · refine V_widen (k' := 363 + 9 * j + 6) (n' := 2230 + 54 * j + 36) (by omega) (by omega) ?_
                                  exact join309 w9 (by unfold s5; first | (rw [if_pos (by omega)]; exact hF9) | (rw [if_neg (by omega)]; exact hF9))
                                · refine r_aload_n (pc' := 294) hX dL_build_293 rfl rfl ?_
                                  refine r_bipush (pc' := 296) (v := nI 6) hX dL_build_294 rfl rfl ?_
                                  refine r_iload (pc' := 298) hX dL_build_296 rfl rfl ?_
                                  refine r_bipush (pc' := 300) (v := nI 11) hX dL_build_298 rfl rfl ?_
                                  refine r_ishr (pc' := 301) hX dL_build_300 rfl ?_
                                  change V X (363 + 9 * j + 5) (2230 + 54 * j + 30) (w9) [some (.ref (sa 90)), some (.ref f), some (.int z), some (.int (nI (j + 1))), some (.int c), some (.int (nI (T.1 0 4))), some (.int (nI b9))] [.int (shr c (nI 11)), .int (nI 6), .ref f] 301
                                  refine r_iconst (pc' := 302) (v := nI 1) hX dL_build_301 rfl rfl ?_
                                  refine r_iand (pc' := 303) hX dL_build_302 rfl ?_
                                  rw [bt_and (shr c (nI 11)) 1]
                                  have hbt302 := bt_le (shr c (nI 11)) 1
                                  refine r_iconst (pc' := 304) (v := nI 0) hX dL_build_303 rfl rfl ?_
                                  refine r_iconst (pc' := 305) (v := nI 0) hX dL_build_304 rfl rfl ?_
                                  refine V_call0 (k' := 363 + 9 * j + 5 + 1) (n' := 2230 + 54 * j + 30 + 6) (pc' := 308) hX (r_runSW (As := [.ref f, .int (nI 6), .int (nI (bt (shr c (nI 11)) 1)), .int (nI 0), .int (nI 0)]) hX dL_build_305 kw_L_30 (fun l9 hl9 => by cases hl9; exact cA_6 (S := (s4 c b9 (s3 c b9 T))) (a := nI (bt (shr c (nI 11)) 1)) (b := nI 0) (c := nI 0) hF9 (hJ4.1) (hst := (by rw [hl]; exact hst))) hG rfl rfl (Nat.le_of_ble_eq_true rfl) (by decide) (by decide) (by omega) (by omega)) (by omega) (by omega) rfl (fun w9 u37 hp9 => ?_)
                                  obtain ⟨rfl, hF37⟩ := hp9
                                  change V X (363 + 9 * j + 5 + 1) (2230 + 54 * j + 30 + 6) (u37) [some (.ref (sa 90)), some (.ref f), some (.int z), some (.int (nI (j + 1))), some (.int c), some (.int (nI (T.1 0 4))), some (.int (nI b9))] [.int ((oReset (s4 c b9 (s3 c b9 T)).1 (nI (bt (shr c (nI 11)) 1))).1)] 308
                                  refine r_pop (pc' := 309) hX dL_build_308 rfl rfl ?_
                                  refine V_widen (k' := 363 + 9 * j + 6) (n' := 2230 + 54 * j + 36) (by omega) (by omega) ?_
                                  exact join309 u37 (by unfold s5; first | (rw [if_pos (by omega)]; exact hF37) | (rw [if_neg (by omega)]; exact hF37))
                              refine r_icmp_ne_N (tgt := 283) (pc' := 273) hX dL_build_270 (by decide) rfl (by omega) (by omega) (fun c270 => ?_) (fun c270 => ?_)
                              · refine V_widen (k' := 363 + 9 * j + 5) (n' := 2230 + 54 * j + 30) (by omega) (by omega) ?_
                                exact join283 w9 (by unfold s4; first | (rw [if_pos (by omega)]; exact hF9) | (rw [if_neg (by omega)]; exact hF9))
                              · refine r_aload_n (pc' := 274) hX dL_build_273 rfl rfl ?_
                                refine r_iconst (pc' := 275) (v := nI 5) hX dL_build_274 rfl rfl ?_
                                refine r_iload (pc' := 277) hX dL_build_275 rfl rfl ?_
                                refine r_iconst (pc' := 278) (v := nI 0) hX dL_build_277 rfl rfl ?_
                                refine r_iconst (pc' := 279) (v := nI 0) hX dL_build_278 rfl rfl ?_
                                refine V_call0 (k' := 363 + 9 * j + 4 + 1) (n' := 2230 + 54 * j + 24 + 6) (pc' := 282) hX (r_runSW (As := [.ref f, .int (nI 5), .int (nI b9), .int (nI 0), .int (nI 0)]) hX dL_build_279 kw_L_30 (fun l9 hl9 => by cases hl9; exact cA_5 (S := (s3 c b9 T)) (a := nI b9) (b := nI 0) (c := nI 0) hF9 (hJ3.1) (hst := (by rw [hl]; exact hst))) hG rfl rfl (Nat.le_of_ble_eq_true rfl) (by decide) (by decide) (by omega) (by omega)) (by omega) (by omega) rfl (fun w9 u38 hp9 => ?_)
                                obtain ⟨rfl, hF38⟩ := hp9
                                change V X (363 + 9 * j + 4 + 1) (2230 + 54 * j + 24 + 6) (u38) [some (.ref (sa 90)), some (.ref f), some (.int z), some (.int (nI (j + 1))), some (.int c), some (.int (nI (T.1 0 4))), some (.int (nI b9))] [.int ((oMelt (s3 c b9 T).1 (nI b9)).1)] 282
                                refine r_pop (pc' := 283) hX dL_build_282 rfl rfl ?_
                                refine V_widen (k' := 363 + 9 * j + 5) (n' := 2230 + 54 * j + 30) (by omega) (by omega) ?_
                                exact join283 u38 (by unfold s4; first | (rw [if_pos (by omega)]; exact hF38) | (rw [if_neg (by omega)]; exact hF38))
                            refine r_if_ne_N (tgt := 262) (pc' := 252) hX dL_build_249 (by decide) rfl (by omega) (fun c249 => ?_) (fun c249 => ?_)
                            · refine V_widen (k' := 363 + 9 * j + 4) (n' := 2230 + 54 * j + 24) (by omega) (by omega) ?_
                              exact join262 w9 (by unfold s3; first | (rw [if_pos (by omega)]; exact hF9) | (rw [if_neg (by omega)]; exact hF9))
                            · refine r_aload_n (pc' := 253) hX dL_build_252 rfl rfl ?_
                              refine r_iconst (pc' := 254) (v := nI 4) hX dL_build_253 rfl rfl ?_
                              refine r_iload (pc' := 256) hX dL_build_254 rfl rfl ?_
                              refine r_iconst (pc' := 257) (v := nI 0) hX dL_build_256 rfl rfl ?_
                              refine r_iconst (pc' := 258) (v := nI 0) hX dL_build_257 rfl rfl ?_
                              refine V_call0 (k' := 363 + 9 * j + 3 + 1) (n' := 2230 + 54 * j + 18 + 6) (pc' := 261) hX (r_runSW (As := [.ref f, .int (nI 4), .int (nI b9), .int (nI 0), .int (nI 0)]) hX dL_build_258 kw_L_30 (fun l9 hl9 => by cases hl9; exact cA_4 (S := T) (a := nI b9) (b := nI 0) (c := nI 0) hF9 (hJT.1) (hst := (by rw [hl]; exact hst))) hG rfl rfl (Nat.le_of_ble_eq_true rfl) (by decide) (by decide) (by omega) (by omega)) (by omega) (by omega) rfl (fun w9 u39 hp9 => ?_)
                              obtain ⟨rfl, hF39⟩ := hp9
                              change V X (363 + 9 * j + 3 + 1) (2230 + 54 * j + 18 + 6) (u39) [some (.ref (sa 90)), some (.ref f), some (.int z), some (.int (nI (j + 1))), some (.int c), some (.int (nI (T.1 0 4))), some (.int (nI b9))] [.int ((oExam T.1 (nI b9)).1)] 261
                              refine r_pop (pc' := 262) hX dL_build_261 rfl rfl ?_
                              refine V_widen (k' := 363 + 9 * j + 4) (n' := 2230 + 54 * j + 24) (by omega) (by omega) ?_
                              exact join262 u39 (by unfold s3; first | (rw [if_pos (by omega)]; exact hF39) | (rw [if_neg (by omega)]; exact hF39))
                          refine r_if_le_N (tgt := 239) (pc' := 221) hX dL_build_218 (by decide) rfl (by omega) (fun c218 => ?_) (fun c218 => ?_)
                          · refine r_iconst (pc' := 240) (v := nI 0) hX dL_build_239 rfl rfl ?_
                            refine V_widen (k' := 363 + 9 * j + 3) (n' := 2230 + 54 * j + 18) (by omega) (by omega) ?_
                            exact join240 0 u33 (by unfold bnO; first | rw [if_pos (by omega)] | rw [if_neg (by omega)]) hF33
                          · have hm15 : bt (shr c (nI 15)) 7 % T.1 0 4 < T.1 0 4 := Nat.mod_lt _ (by omega)
                            have hb15 := (hWT.2.2.2.2.2.2.1 _ hm15).2.2.2.1
                            refine r_aload_n (pc' := 222) hX dL_build_221 rfl rfl ?_
                            refine r_iload (pc' := 224) hX dL_build_222 rfl rfl ?_
                            refine r_bipush (pc' := 226) (v := nI 15) hX dL_build_224 rfl rfl ?_
                            refine r_ishr (pc' := 227) hX dL_build_226 rfl ?_
                            change V X (363 + 9 * j + 1 + 1) (2230 + 54 * j + 6 + 6) (u33) [some (.ref (sa 90)), some (.ref f), some (.int z), some (.int (nI (j + 1))), some (.int c), some (.int (nI (T.1 0 4))), none] [.int (shr c (nI 15)), .ref f] 227
                            refine r_bipush (pc' := 229) (v := nI 7) hX dL_build_227 rfl rfl ?_
                            refine r_iand (pc' := 230) hX dL_build_229 rfl ?_
                            rw [bt_and (shr c (nI 15)) 7]
                            have hbt229 := bt_le (shr c (nI 15)) 7
                            refine r_iload (pc' := 232) hX dL_build_230 rfl rfl ?_
                            refine r_irem_N (pc' := 233) hX dL_build_232 (by omega) (by omega) (by omega) rfl ?_
                            refine V_call0X (k' := 363 + 9 * j + 1 + 1 + 1) (n' := 2230 + 54 * j + 6 + 6 + 6) (pc' := 236) hX (r_runVX (As := [.int (nI ((bt (shr c (nI 15)) 7) % (T.1 0 4)))]) hX dL_build_233 k_L_40 (fun l9 hl9 => by cases hl9; exact cF_batchAt (v := T.1) rfl hF33 (hJT.1).1 (hst := (by rw [hl]; exact hst))) hG (FS_recv hF33) rfl rfl (Nat.le_of_ble_eq_true rfl) (by decide) (by decide) (by omega) (by omega)) (by omega) (by omega) rfl (fun w9 u40 hp9 => ?_) ?_
                            · obtain ⟨okq, rfl, hF40⟩ := hp9
                              rw [show (qAt T.1 (nI ((bt (shr c (nI 15)) 7) % (T.1 0 4))) : Int32) = nI (T.1 (13 + bt (shr c (nI 15)) 7 % T.1 0 4) 0) from by unfold qAt; rw [if_pos ((inR_nI (by omega)).mpr (by omega)), tn_nI (by omega)]]
                              change V X (363 + 9 * j + 1 + 1 + 1) (2230 + 54 * j + 6 + 6 + 6) (u40) [some (.ref (sa 90)), some (.ref f), some (.int z), some (.int (nI (j + 1))), some (.int c), some (.int (nI (T.1 0 4))), none] [.int (nI (T.1 (13 + bt (shr c (nI 15)) 7 % T.1 0 4) 0))] 236
                              refine r_goto (tgt := 240) hX dL_build_236 (by decide) ?_
                              refine V_widen (k' := 363 + 9 * j + 3) (n' := 2230 + 54 * j + 18) (by omega) (by omega) ?_
                              exact join240 (T.1 (13 + bt (shr c (nI 15)) 7 % T.1 0 4) 0) u40 (by unfold bnO; first | rw [if_pos (by omega)] | rw [if_neg (by omega)]) hF40
                            · intro E9 u9 hp9
                              exact absurd hp9.1 (by rw [show (qAt T.1 (nI ((bt (shr c (nI 15)) 7) % (T.1 0 4))) : Int32) = nI (T.1 (13 + bt (shr c (nI 15)) 7 % T.1 0 4) 0) from by unfold qAt; rw [if_pos ((inR_nI (by omega)).mpr (by omega)), tn_nI (by omega)]]; exact okN (by first | decide | omega))
                    refine V_widen (k' := 363 + 9 * 0) (n' := 2230 + 54 * 0) (by omega) (by omega) ?_
                    exact loop139 _ 0 w9 (Nat.lt_succ_self _) (by omega) (by
                      rw [show j = 9 by omega] at hF9
                      exact hF9)
                  · refine r_aload_n (pc' := 113) hX dL_build_112 rfl rfl ?_
                    refine r_iconst (pc' := 114) (v := nI 2) hX dL_build_113 rfl rfl ?_
                    refine r_iload_n (pc' := 115) hX dL_build_114 rfl rfl ?_
                    refine r_iconst (pc' := 116) (v := nI 3) hX dL_build_115 rfl rfl ?_
                    refine r_irem_N (pc' := 117) hX dL_build_116 (by omega) (by omega) (by omega) rfl ?_
                    refine r_bipush (pc' := 119) (v := nI 60) hX dL_build_117 rfl rfl ?_
                    refine r_iload_n (pc' := 120) hX dL_build_119 rfl rfl ?_
                    refine r_iload_n (pc' := 121) hX dL_build_120 rfl rfl ?_
                    refine r_ishr (pc' := 122) hX dL_build_121 rfl ?_
                    change V X (354 + 1 * j) (2176 + 6 * j) (w9) [some (.ref (sa 90)), some (.ref f), some (.int z), some (.int (nI j)), none, none, none] [.int (shr z (nI j)), .int (nI 60), .int (nI (j % 3)), .int (nI 2), .ref f] 122
                    refine r_bipush (pc' := 124) (v := nI 31) hX dL_build_122 rfl rfl ?_
                    refine r_iand (pc' := 125) hX dL_build_124 rfl ?_
                    rw [bt_and (shr z (nI j)) 31]
                    have hbt124 := bt_le (shr z (nI j)) 31
                    refine r_iadd_N (pc' := 126) hX dL_build_125  rfl ?_
                    refine r_iconst (pc' := 127) (v := nI 0) hX dL_build_126 rfl rfl ?_
                    refine V_call0 (k' := 354 + 1 * j + 1) (n' := 2176 + 6 * j + 6) (pc' := 130) hX (r_runSW (As := [.ref f, .int (nI 2), .int (nI (j % 3)), .int (nI (60 + (bt (shr z (nI j)) 31))), .int (nI 0)]) hX dL_build_127 kw_L_30 (fun l9 hl9 => by cases hl9; exact cA_2 (S := (bB z j)) (a := nI (j % 3)) (b := nI (60 + (bt (shr z (nI j)) 31))) (c := nI 0) hF9 ((J_bB j).1) (hst := (by rw [hl]; exact hst))) hG rfl rfl (Nat.le_of_ble_eq_true rfl) (by decide) (by decide) (by omega) (by omega)) (by omega) (by omega) rfl (fun w9 u41 hp9 => ?_)
                    obtain ⟨rfl, hF41⟩ := hp9
                    change V X (354 + 1 * j + 1) (2176 + 6 * j + 6) (u41) [some (.ref (sa 90)), some (.ref f), some (.int z), some (.int (nI j)), none, none, none] [.int ((oBuy (bB z j).1 (nI (j % 3)) (nI (60 + (bt (shr z (nI j)) 31)))).1)] 130
                    refine r_pop (pc' := 131) hX dL_build_130 rfl rfl ?_
                    refine r_iinc_N (b := 1) (L' := [some (.ref (sa 90)), some (.ref f), some (.int z), some (.int (nI (j + 1))), none, none, none]) (pc' := 134) hX dL_build_131 rfl (nlt hnL (by decide)) rfl rfl rfl ?_
                    refine r_goto (tgt := 106) hX dL_build_134 (by decide) ?_
                    refine V_widen (k' := 354 + 1 * (j + 1)) (n' := 2176 + 6 * (j + 1)) (by omega) (by omega) ?_
                    exact ih106 (j + 1) u41 (by omega) (by omega) hF41
              refine V_widen (k' := 354 + 1 * 0) (n' := 2176 + 6 * 0) (by omega) (by omega) ?_
              exact loop106 _ 0 w9 (Nat.lt_succ_self _) (by omega) (by
                rw [show j = 2 by omega] at hF9
                exact hF9)
            · refine r_aload_n (pc' := 77) hX dL_build_76 rfl rfl ?_
              refine r_iconst (pc' := 78) (v := nI 1) hX dL_build_77 rfl rfl ?_
              refine r_iconst (pc' := 79) (v := nI 1) hX dL_build_78 rfl rfl ?_
              refine r_iload_n (pc' := 80) hX dL_build_79 rfl rfl ?_
              refine r_bipush (pc' := 82) (v := nI 7) hX dL_build_80 rfl rfl ?_
              refine r_iload_n (pc' := 83) hX dL_build_82 rfl rfl ?_
              refine r_imul_N (pc' := 84) hX dL_build_83  rfl ?_
              refine r_ishr (pc' := 85) hX dL_build_84 rfl ?_
              change V X (352 + 1 * j) (2164 + 6 * j) (w9) [some (.ref (sa 90)), some (.ref f), some (.int z), some (.int (nI j)), none, none, none] [.int (shr z (nI (7 * j))), .int (nI 1), .int (nI 1), .ref f] 85
              refine r_bipush (pc' := 87) (v := nI 63) hX dL_build_85 rfl rfl ?_
              refine r_iand (pc' := 88) hX dL_build_87 rfl ?_
              rw [bt_and (shr z (nI (7 * j))) 63]
              have hbt87 := bt_le (shr z (nI (7 * j))) 63
              refine r_bipush (pc' := 90) (v := nI 50) hX dL_build_88 rfl rfl ?_
              refine r_irem_N (pc' := 91) hX dL_build_90 (by omega) (by omega) (by omega) rfl ?_
              refine r_iadd_N (pc' := 92) hX dL_build_91  rfl ?_
              refine r_iconst (pc' := 93) (v := nI 0) hX dL_build_92 rfl rfl ?_
              refine r_iconst (pc' := 94) (v := nI 0) hX dL_build_93 rfl rfl ?_
              refine V_call0 (k' := 352 + 1 * j + 1) (n' := 2164 + 6 * j + 6) (pc' := 97) hX (r_runSW (As := [.ref f, .int (nI 1), .int (nI (1 + ((bt (shr z (nI (7 * j))) 63) % 50))), .int (nI 0), .int (nI 0)]) hX dL_build_94 kw_L_30 (fun l9 hl9 => by cases hl9; exact cA_1 (S := (bM z j)) (a := nI (1 + ((bt (shr z (nI (7 * j))) 63) % 50))) (b := nI 0) (c := nI 0) hF9 ((bM_0 j (by omega)).1) (hst := (by rw [hl]; exact hst))) hG rfl rfl (Nat.le_of_ble_eq_true rfl) (by decide) (by decide) (by omega) (by omega)) (by omega) (by omega) rfl (fun w9 u42 hp9 => ?_)
              obtain ⟨rfl, hF42⟩ := hp9
              change V X (352 + 1 * j + 1) (2164 + 6 * j + 6) (u42) [some (.ref (sa 90)), some (.ref f), some (.int z), some (.int (nI j)), none, none, none] [.int ((oMould (bM z j).1 (nI (1 + ((bt (shr z (nI (7 * j))) 63) % 50)))).1)] 97
              refine r_pop (pc' := 98) hX dL_build_97 rfl rfl ?_
              refine r_iinc_N (b := 1) (L' := [some (.ref (sa 90)), some (.ref f), some (.int z), some (.int (nI (j + 1))), none, none, none]) (pc' := 101) hX dL_build_98 rfl (nlt hnL (by decide)) rfl rfl rfl ?_
              refine r_goto (tgt := 71) hX dL_build_101 (by decide) ?_
              refine V_widen (k' := 352 + 1 * (j + 1)) (n' := 2164 + 6 * (j + 1)) (by omega) (by omega) ?_
              exact ih71 (j + 1) u42 (by omega) (by omega) hF42
        refine V_widen (k' := 352 + 1 * 0) (n' := 2164 + 6 * 0) (by omega) (by omega) ?_
        exact loop71 _ 0 w9 (Nat.lt_succ_self _) (by omega) (by
          rw [show j = 2 + bt z 1 by omega] at hF9
          exact hF9)
      · refine r_aload_n (pc' := 26) hX dL_build_25 rfl rfl ?_
        refine r_iconst (pc' := 27) (v := nI 0) hX dL_build_26 rfl rfl ?_
        refine r_iload_n (pc' := 28) hX dL_build_27 rfl rfl ?_
        refine r_iconst (pc' := 29) (v := nI 1) hX dL_build_28 rfl rfl ?_
        refine r_iconst (pc' := 30) (v := nI 3) hX dL_build_29 rfl rfl ?_
        refine r_iload_n (pc' := 31) hX dL_build_30 rfl rfl ?_
        refine r_imul_N (pc' := 32) hX dL_build_31  rfl ?_
        refine r_iadd_N (pc' := 33) hX dL_build_32  rfl ?_
        refine r_ishr (pc' := 34) hX dL_build_33 rfl ?_
        change V X (349 + 1 * j) (2146 + 6 * j) (w9) [some (.ref (sa 90)), some (.ref f), some (.int z), some (.int (nI j)), none, none, none] [.int (shr z (nI (1 + (3 * j)))), .int (nI 0), .ref f] 34
        refine r_bipush (pc' := 36) (v := nI 7) hX dL_build_34 rfl rfl ?_
        refine r_iand (pc' := 37) hX dL_build_36 rfl ?_
        rw [bt_and (shr z (nI (1 + (3 * j)))) 7]
        have hbt36 := bt_le (shr z (nI (1 + (3 * j)))) 7
        refine r_iconst (pc' := 38) (v := nI 5) hX dL_build_37 rfl rfl ?_
        refine r_irem_N (pc' := 39) hX dL_build_38 (by omega) (by omega) (by omega) rfl ?_
        refine r_iload_n (pc' := 40) hX dL_build_39 rfl rfl ?_
        refine r_iconst (pc' := 41) (v := nI 2) hX dL_build_40 rfl rfl ?_
        refine r_iconst (pc' := 42) (v := nI 4) hX dL_build_41 rfl rfl ?_
        refine r_iload_n (pc' := 43) hX dL_build_42 rfl rfl ?_
        refine r_imul_N (pc' := 44) hX dL_build_43  rfl ?_
        refine r_iadd_N (pc' := 45) hX dL_build_44  rfl ?_
        refine r_ishr (pc' := 46) hX dL_build_45 rfl ?_
        change V X (349 + 1 * j) (2146 + 6 * j) (w9) [some (.ref (sa 90)), some (.ref f), some (.int z), some (.int (nI j)), none, none, none] [.int (shr z (nI (2 + (4 * j)))), .int (nI ((bt (shr z (nI (1 + (3 * j)))) 7) % 5)), .int (nI 0), .ref f] 46
        refine r_iconst (pc' := 47) (v := nI 3) hX dL_build_46 rfl rfl ?_
        refine r_iand (pc' := 48) hX dL_build_47 rfl ?_
        rw [bt_and (shr z (nI (2 + (4 * j)))) 3]
        have hbt47 := bt_le (shr z (nI (2 + (4 * j)))) 3
        refine r_iconst (pc' := 49) (v := nI 1) hX dL_build_48 rfl rfl ?_
        refine r_iload_n (pc' := 50) hX dL_build_49 rfl rfl ?_
        refine r_iconst (pc' := 51) (v := nI 3) hX dL_build_50 rfl rfl ?_
        refine r_iconst (pc' := 52) (v := nI 5) hX dL_build_51 rfl rfl ?_
        refine r_iload_n (pc' := 53) hX dL_build_52 rfl rfl ?_
        refine r_imul_N (pc' := 54) hX dL_build_53  rfl ?_
        refine r_iadd_N (pc' := 55) hX dL_build_54  rfl ?_
        refine r_ishr (pc' := 56) hX dL_build_55 rfl ?_
        change V X (349 + 1 * j) (2146 + 6 * j) (w9) [some (.ref (sa 90)), some (.ref f), some (.int z), some (.int (nI j)), none, none, none] [.int (shr z (nI (3 + (5 * j)))), .int (nI 1), .int (nI (bt (shr z (nI (2 + (4 * j)))) 3)), .int (nI ((bt (shr z (nI (1 + (3 * j)))) 7) % 5)), .int (nI 0), .ref f] 56
        refine r_iconst (pc' := 57) (v := nI 3) hX dL_build_56 rfl rfl ?_
        refine r_iand (pc' := 58) hX dL_build_57 rfl ?_
        rw [bt_and (shr z (nI (3 + (5 * j)))) 3]
        have hbt57 := bt_le (shr z (nI (3 + (5 * j)))) 3
        refine r_iadd_N (pc' := 59) hX dL_build_58  rfl ?_
        refine V_call0 (k' := 349 + 1 * j + 1) (n' := 2146 + 6 * j + 6) (pc' := 62) hX (r_runSW (As := [.ref f, .int (nI 0), .int (nI ((bt (shr z (nI (1 + (3 * j)))) 7) % 5)), .int (nI (bt (shr z (nI (2 + (4 * j)))) 3)), .int (nI (1 + (bt (shr z (nI (3 + (5 * j)))) 3)))]) hX dL_build_59 kw_L_30 (fun l9 hl9 => by cases hl9; exact cA_0 (S := (bA z j)) (a := nI ((bt (shr z (nI (1 + (3 * j)))) 7) % 5)) (b := nI (bt (shr z (nI (2 + (4 * j)))) 3)) (c := nI (1 + (bt (shr z (nI (3 + (5 * j)))) 3))) hF9 ((AJ_bA j)) (hst := (by rw [hl]; exact hst))) hG rfl rfl (Nat.le_of_ble_eq_true rfl) (by decide) (by decide) (by omega) (by omega)) (by omega) (by omega) rfl (fun w9 u43 hp9 => ?_)
        obtain ⟨rfl, hF43⟩ := hp9
        change V X (349 + 1 * j + 1) (2146 + 6 * j + 6) (u43) [some (.ref (sa 90)), some (.ref f), some (.int z), some (.int (nI j)), none, none, none] [.int ((oMix (bA z j).1 (nI ((bt (shr z (nI (1 + (3 * j)))) 7) % 5)) (nI (bt (shr z (nI (2 + (4 * j)))) 3)) (nI (1 + (bt (shr z (nI (3 + (5 * j)))) 3)))).1)] 62
        refine r_pop (pc' := 63) hX dL_build_62 rfl rfl ?_
        refine r_iinc_N (b := 1) (L' := [some (.ref (sa 90)), some (.ref f), some (.int z), some (.int (nI (j + 1))), none, none, none]) (pc' := 66) hX dL_build_63 rfl (nlt hnL (by decide)) rfl rfl rfl ?_
        refine r_goto (tgt := 16) hX dL_build_66 (by decide) ?_
        refine V_widen (k' := 349 + 1 * (j + 1)) (n' := 2146 + 6 * (j + 1)) (by omega) (by omega) ?_
        exact ih16 (j + 1) u43 (by omega) (by omega) hF43
  refine V_widen (k' := 349 + 1 * 0) (n' := 2146 + 6 * 0) (by omega) (by omega) ?_
  exact loop16 _ 0 u9 (Nat.lt_succ_self _) (by omega) hF0
