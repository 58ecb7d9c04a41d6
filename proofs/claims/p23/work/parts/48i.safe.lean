set_option maxHeartbeats 2000000 in
theorem sX7_earns (n : Nat) (hn : n = 2200000000) (v_bank : Int32) (v_whole : Int64) (v_lorries : Int32) (a_hand : Nat → Int32) (a_lTown : Nat → Int32) (a_isStruck : Nat → Int32) (a_lSampled : Nat → Int32) (a_lWeight : Nat → Int32) (a_unitMany : Nat → Int32) (a_parts : Nat → Int64) (a_rows : Nat → Int64) (a_chosen : Nat → Int32) (a_settingMany : Nat → Int32) (a_shares : Nat → Int32) (a_yesTo : Nat → Int32) (a_noTo : Nat → Int32) (a_all : Nat → Int32) (a_gradeMany : Nat → Int32) (a_gPurity : Nat → Int32) (a_gKind : Nat → Int32) (a_gPrice : Nat → Int32) (z1 : Int32) (gM : Int) (i0 : 0 ≤ (v_bank).toInt) (i1 : (v_bank).toInt ≤ 1) (i2 : ∀ i : Nat, ((i : Int) = (v_bank).toInt) → ((a_unitMany i).toInt = gM)) (i3 : 0 ≤ gM) (i4 : gM ≤ 5) (i5 : ∀ i : Nat, (5 * (v_bank).toInt ≤ (i : Int) ∧ (i : Int) < 5 * (v_bank).toInt + gM) → ((0 ≤ (a_yesTo i).toInt ∧ (a_yesTo i).toInt ≤ 4) ∨ (10 ≤ (a_yesTo i).toInt ∧ (a_yesTo i).toInt ≤ 13) ∨ (a_yesTo i).toInt = 20)) (i6 : ∀ i : Nat, (5 * (v_bank).toInt ≤ (i : Int) ∧ (i : Int) < 5 * (v_bank).toInt + gM) → ((0 ≤ (a_noTo i).toInt ∧ (a_noTo i).toInt ≤ 4) ∨ (10 ≤ (a_noTo i).toInt ∧ (a_noTo i).toInt ≤ 13) ∨ (a_noTo i).toInt = 20)) (i7 : ∀ i : Nat, (i < 10) → (0 ≤ (a_settingMany i).toInt ∧ (a_settingMany i).toInt ≤ 3)) (i8 : ∀ i : Nat, (i < 5) → (0 ≤ (a_chosen i).toInt ∧ (a_chosen i).toInt ≤ 2)) (i9 : 0 ≤ (v_lorries).toInt) (i10 : (v_lorries).toInt ≤ 60) (i11 : ∀ i : Nat, (i < 8) → (0 ≤ (a_gradeMany i).toInt ∧ (a_gradeMany i).toInt ≤ 4)) (i12 : ∀ i : Nat, (i < 32) → (0 ≤ (a_gKind i).toInt ∧ (a_gKind i).toInt ≤ 4)) : OK (FX7_earns n v_bank v_whole v_lorries a_hand a_lTown a_isStruck a_lSampled a_lWeight a_unitMany a_parts a_rows a_chosen a_settingMany a_shares a_yesTo a_noTo a_all a_gradeMany a_gPurity a_gKind a_gPrice z1) (fun u => True) := by
  unfold FX7_earns
  refine OK_bd (sX7_isBale n hn z1) (fun u_2 p_u_2 => ?_)
  have p4227 := p_u_2
  clear p_u_2
  refine OK_if (fun c4228 => ?_) (fun c4228 => ?_)
  · have v4229 : HQ ((0 : Int32)).toInt 0 := HQ.mk (by decide)
    have f4230 := eq32k rfl v4229.out c4228
    exact OK_some trivial
  · have v4231 : HQ ((0 : Int32)).toInt 0 := HQ.mk (by decide)
    have f4232 := neq32k rfl v4231.out c4228
    refine OK_bd (sX7_sortAll n hn v_bank v_whole v_lorries a_hand a_lTown a_isStruck a_lSampled a_lWeight a_unitMany a_parts a_rows a_chosen a_settingMany a_shares a_yesTo a_noTo a_all (gM) i0 i1 (by
        intro i hi
        have f4233 := i2 i
        omega) (by omega) (by omega) (by
        intro i hi
        have f4234 := i5 i
        omega) (by
        intro i hi
        have f4235 := i6 i
        omega) i7 i8 i9 i10) (fun u_5 p_u_5 => ?_)
    refine OK_bd (sX7_earned n hn v_bank a_gradeMany a_gPurity u_5.2.2.2.2 a_gKind a_gPrice z1 i0 i1 i11 i12 (by omega) (by omega)) (fun u_7 p_u_7 => ?_)
    exact OK_some trivial
set_option maxHeartbeats 2000000 in
theorem sFX7_worth_22 (n : Nat) (hn : n = 2200000000) (v_bank : Int32) (v_lorries : Int32) (v_cost : Int32) (a_hand : Nat → Int32) (a_lTown : Nat → Int32) (a_isStruck : Nat → Int32) (a_lSampled : Nat → Int32) (a_lWeight : Nat → Int32) (a_unitMany : Nat → Int32) (a_chosen : Nat → Int32) (a_settingMany : Nat → Int32) (a_shares : Nat → Int32) (a_yesTo : Nat → Int32) (a_noTo : Nat → Int32) (a_gradeMany : Nat → Int32) (a_gPurity : Nat → Int32) (a_gKind : Nat → Int32) (a_gPrice : Nat → Int32) (gM : Int) (k22 : Int64 → (Nat → Int64) → (Nat → Int64) → (Nat → Int32) → Int32 → Int32 → Option (Int32 × Int64 × (Nat → Int64) × (Nat → Int64) × (Nat → Int32))) (mB22 : Nat) (hk22 : ∀ (v_whole : Int64) (a_parts : Nat → Int64) (a_rows : Nat → Int64) (a_all : Nat → Int32) (x1 : Int32) (x2 : Int32), (0 ≤ (v_bank).toInt) → ((v_bank).toInt ≤ 1) → (∀ i : Nat, ((i : Int) = (v_bank).toInt) → ((a_unitMany i).toInt = gM)) → (0 ≤ gM) → (gM ≤ 5) → (∀ i : Nat, (5 * (v_bank).toInt ≤ (i : Int) ∧ (i : Int) < 5 * (v_bank).toInt + gM) → ((0 ≤ (a_yesTo i).toInt ∧ (a_yesTo i).toInt ≤ 4) ∨ (10 ≤ (a_yesTo i).toInt ∧ (a_yesTo i).toInt ≤ 13) ∨ (a_yesTo i).toInt = 20)) → (∀ i : Nat, (5 * (v_bank).toInt ≤ (i : Int) ∧ (i : Int) < 5 * (v_bank).toInt + gM) → ((0 ≤ (a_noTo i).toInt ∧ (a_noTo i).toInt ≤ 4) ∨ (10 ≤ (a_noTo i).toInt ∧ (a_noTo i).toInt ≤ 13) ∨ (a_noTo i).toInt = 20)) → (∀ i : Nat, (i < 10) → (0 ≤ (a_settingMany i).toInt ∧ (a_settingMany i).toInt ≤ 3)) → (∀ i : Nat, (i < 5) → (0 ≤ (a_chosen i).toInt ∧ (a_chosen i).toInt ≤ 2)) → (0 ≤ (v_lorries).toInt) → ((v_lorries).toInt ≤ 60) → (∀ i : Nat, (i < 8) → (0 ≤ (a_gradeMany i).toInt ∧ (a_gradeMany i).toInt ≤ 4)) → (∀ i : Nat, (i < 32) → (0 ≤ (a_gKind i).toInt ∧ (a_gKind i).toInt ≤ 4)) → (0 ≤ (x2).toInt) → ((x2).toInt ≤ 4) → (4 - (x2).toInt).toNat < mB22 → OK (k22 v_whole a_parts a_rows a_all x1 x2) (fun u => True)) (v_whole : Int64) (a_parts : Nat → Int64) (a_rows : Nat → Int64) (a_all : Nat → Int32) (x1 : Int32) (x2 : Int32) (i0 : 0 ≤ (v_bank).toInt) (i1 : (v_bank).toInt ≤ 1) (i2 : ∀ i : Nat, ((i : Int) = (v_bank).toInt) → ((a_unitMany i).toInt = gM)) (i3 : 0 ≤ gM) (i4 : gM ≤ 5) (i5 : ∀ i : Nat, (5 * (v_bank).toInt ≤ (i : Int) ∧ (i : Int) < 5 * (v_bank).toInt + gM) → ((0 ≤ (a_yesTo i).toInt ∧ (a_yesTo i).toInt ≤ 4) ∨ (10 ≤ (a_yesTo i).toInt ∧ (a_yesTo i).toInt ≤ 13) ∨ (a_yesTo i).toInt = 20)) (i6 : ∀ i : Nat, (5 * (v_bank).toInt ≤ (i : Int) ∧ (i : Int) < 5 * (v_bank).toInt + gM) → ((0 ≤ (a_noTo i).toInt ∧ (a_noTo i).toInt ≤ 4) ∨ (10 ≤ (a_noTo i).toInt ∧ (a_noTo i).toInt ≤ 13) ∨ (a_noTo i).toInt = 20)) (i7 : ∀ i : Nat, (i < 10) → (0 ≤ (a_settingMany i).toInt ∧ (a_settingMany i).toInt ≤ 3)) (i8 : ∀ i : Nat, (i < 5) → (0 ≤ (a_chosen i).toInt ∧ (a_chosen i).toInt ≤ 2)) (i9 : 0 ≤ (v_lorries).toInt) (i10 : (v_lorries).toInt ≤ 60) (i11 : ∀ i : Nat, (i < 8) → (0 ≤ (a_gradeMany i).toInt ∧ (a_gradeMany i).toInt ≤ 4)) (i12 : ∀ i : Nat, (i < 32) → (0 ≤ (a_gKind i).toInt ∧ (a_gKind i).toInt ≤ 4)) (i13 : 0 ≤ (x2).toInt) (i14 : (x2).toInt ≤ 4) (hmu : (4 - (x2).toInt).toNat ≤ mB22) : OK (FX7_worth_22 n v_bank v_lorries v_cost a_hand a_lTown a_isStruck a_lSampled a_lWeight a_unitMany a_chosen a_settingMany a_shares a_yesTo a_noTo a_gradeMany a_gPurity a_gKind a_gPrice k22 v_whole a_parts a_rows a_all x1 x2) (fun u => True) := by
  unfold FX7_worth_22
  refine OK_if (fun c4236 => ?_) (fun c4236 => ?_)
  · have v4237 : HQ ((4 : Int32)).toInt 4 := HQ.mk (by decide)
    have f4238 := le32k v4237.out rfl c4236
    exact OK_some trivial
  · have v4239 : HQ ((4 : Int32)).toInt 4 := HQ.mk (by decide)
    have f4240 := nle32k v4239.out rfl c4236
    refine OK_bd (sX7_earned n hn v_bank a_gradeMany a_gPurity a_all a_gKind a_gPrice x2 i0 i1 i11 i12 i13 (by omega)) (fun u_9 p_u_9 => ?_)
    refine OK_lt (fun x_10 e_x_10 => ?_)
    have v4241 : HQ ((1 : Int32)).toInt 1 := HQ.mk (by decide)
    have v4242 : HQ ((x2 + (1 : Int32))).toInt ((x2).toInt + 1) := HQ.mk (addV rfl v4241.out (by omega) (by omega))
    refine OK_lt (fun x_11 e_x_11 => ?_)
    have f4243 : (x_11).toInt = ((x2).toInt + 1) := by rw [e_x_11]; exact v4242.out
    exact hk22 v_whole a_parts a_rows a_all x_10 x_11 i0 i1 i2 i3 i4 i5 i6 i7 i8 i9 i10 i11 i12 (by omega) (by omega) (by omega)
theorem sFX7_worth_22L (n : Nat) (hn : n = 2200000000) (v_bank : Int32) (v_lorries : Int32) (v_cost : Int32) (a_hand : Nat → Int32) (a_lTown : Nat → Int32) (a_isStruck : Nat → Int32) (a_lSampled : Nat → Int32) (a_lWeight : Nat → Int32) (a_unitMany : Nat → Int32) (a_chosen : Nat → Int32) (a_settingMany : Nat → Int32) (a_shares : Nat → Int32) (a_yesTo : Nat → Int32) (a_noTo : Nat → Int32) (a_gradeMany : Nat → Int32) (a_gPurity : Nat → Int32) (a_gKind : Nat → Int32) (a_gPrice : Nat → Int32) (gM : Int) : ∀ (j : Nat) (v_whole : Int64) (a_parts : Nat → Int64) (a_rows : Nat → Int64) (a_all : Nat → Int32) (x1 : Int32) (x2 : Int32), (0 ≤ (v_bank).toInt) → ((v_bank).toInt ≤ 1) → (∀ i : Nat, ((i : Int) = (v_bank).toInt) → ((a_unitMany i).toInt = gM)) → (0 ≤ gM) → (gM ≤ 5) → (∀ i : Nat, (5 * (v_bank).toInt ≤ (i : Int) ∧ (i : Int) < 5 * (v_bank).toInt + gM) → ((0 ≤ (a_yesTo i).toInt ∧ (a_yesTo i).toInt ≤ 4) ∨ (10 ≤ (a_yesTo i).toInt ∧ (a_yesTo i).toInt ≤ 13) ∨ (a_yesTo i).toInt = 20)) → (∀ i : Nat, (5 * (v_bank).toInt ≤ (i : Int) ∧ (i : Int) < 5 * (v_bank).toInt + gM) → ((0 ≤ (a_noTo i).toInt ∧ (a_noTo i).toInt ≤ 4) ∨ (10 ≤ (a_noTo i).toInt ∧ (a_noTo i).toInt ≤ 13) ∨ (a_noTo i).toInt = 20)) → (∀ i : Nat, (i < 10) → (0 ≤ (a_settingMany i).toInt ∧ (a_settingMany i).toInt ≤ 3)) → (∀ i : Nat, (i < 5) → (0 ≤ (a_chosen i).toInt ∧ (a_chosen i).toInt ≤ 2)) → (0 ≤ (v_lorries).toInt) → ((v_lorries).toInt ≤ 60) → (∀ i : Nat, (i < 8) → (0 ≤ (a_gradeMany i).toInt ∧ (a_gradeMany i).toInt ≤ 4)) → (∀ i : Nat, (i < 32) → (0 ≤ (a_gKind i).toInt ∧ (a_gKind i).toInt ≤ 4)) → (0 ≤ (x2).toInt) → ((x2).toInt ≤ 4) → (4 - (x2).toInt).toNat < j → OK (FX7_worth_22L n v_bank v_lorries v_cost a_hand a_lTown a_isStruck a_lSampled a_lWeight a_unitMany a_chosen a_settingMany a_shares a_yesTo a_noTo a_gradeMany a_gPurity a_gKind a_gPrice j v_whole a_parts a_rows a_all x1 x2) (fun u => True) := by
  intro j
  induction j with
  | zero => intro _ _ _ _ _ _ _ _ _ _ _ _ _ _ _ _ _ _ _ _ _ hj; exact absurd hj (Nat.not_lt_zero _)
  | succ j ih =>
    intro v_whole a_parts a_rows a_all x1 x2 i0 i1 i2 i3 i4 i5 i6 i7 i8 i9 i10 i11 i12 i13 i14 hj
    exact sFX7_worth_22 n hn v_bank v_lorries v_cost a_hand a_lTown a_isStruck a_lSampled a_lWeight a_unitMany a_chosen a_settingMany a_shares a_yesTo a_noTo a_gradeMany a_gPurity a_gKind a_gPrice gM (FX7_worth_22L n v_bank v_lorries v_cost a_hand a_lTown a_isStruck a_lSampled a_lWeight a_unitMany a_chosen a_settingMany a_shares a_yesTo a_noTo a_gradeMany a_gPurity a_gKind a_gPrice j) ((4 - (x2).toInt).toNat) (fun y0 y1 y2 y3 y4 y5 w0 w1 w2 w3 w4 w5 w6 w7 w8 w9 w10 w11 w12 w13 w14 hlt => ih y0 y1 y2 y3 y4 y5 w0 w1 w2 w3 w4 w5 w6 w7 w8 w9 w10 w11 w12 w13 w14 (by omega)) v_whole a_parts a_rows a_all x1 x2 i0 i1 i2 i3 i4 i5 i6 i7 i8 i9 i10 i11 i12 i13 i14 (Nat.le_refl _)
set_option maxHeartbeats 2000000 in
theorem sX7_worth (n : Nat) (hn : n = 2200000000) (v_bank : Int32) (v_whole : Int64) (v_lorries : Int32) (v_cost : Int32) (a_hand : Nat → Int32) (a_lTown : Nat → Int32) (a_isStruck : Nat → Int32) (a_lSampled : Nat → Int32) (a_lWeight : Nat → Int32) (a_unitMany : Nat → Int32) (a_parts : Nat → Int64) (a_rows : Nat → Int64) (a_chosen : Nat → Int32) (a_settingMany : Nat → Int32) (a_shares : Nat → Int32) (a_yesTo : Nat → Int32) (a_noTo : Nat → Int32) (a_all : Nat → Int32) (a_gradeMany : Nat → Int32) (a_gPurity : Nat → Int32) (a_gKind : Nat → Int32) (a_gPrice : Nat → Int32) (gM : Int) (i0 : 0 ≤ (v_bank).toInt) (i1 : (v_bank).toInt ≤ 1) (i2 : ∀ i : Nat, ((i : Int) = (v_bank).toInt) → ((a_unitMany i).toInt = gM)) (i3 : 0 ≤ gM) (i4 : gM ≤ 5) (i5 : ∀ i : Nat, (5 * (v_bank).toInt ≤ (i : Int) ∧ (i : Int) < 5 * (v_bank).toInt + gM) → ((0 ≤ (a_yesTo i).toInt ∧ (a_yesTo i).toInt ≤ 4) ∨ (10 ≤ (a_yesTo i).toInt ∧ (a_yesTo i).toInt ≤ 13) ∨ (a_yesTo i).toInt = 20)) (i6 : ∀ i : Nat, (5 * (v_bank).toInt ≤ (i : Int) ∧ (i : Int) < 5 * (v_bank).toInt + gM) → ((0 ≤ (a_noTo i).toInt ∧ (a_noTo i).toInt ≤ 4) ∨ (10 ≤ (a_noTo i).toInt ∧ (a_noTo i).toInt ≤ 13) ∨ (a_noTo i).toInt = 20)) (i7 : ∀ i : Nat, (i < 10) → (0 ≤ (a_settingMany i).toInt ∧ (a_settingMany i).toInt ≤ 3)) (i8 : ∀ i : Nat, (i < 5) → (0 ≤ (a_chosen i).toInt ∧ (a_chosen i).toInt ≤ 2)) (i9 : 0 ≤ (v_lorries).toInt) (i10 : (v_lorries).toInt ≤ 60) (i11 : ∀ i : Nat, (i < 8) → (0 ≤ (a_gradeMany i).toInt ∧ (a_gradeMany i).toInt ≤ 4)) (i12 : ∀ i : Nat, (i < 32) → (0 ≤ (a_gKind i).toInt ∧ (a_gKind i).toInt ≤ 4)) : OK (FX7_worth n v_bank v_whole v_lorries v_cost a_hand a_lTown a_isStruck a_lSampled a_lWeight a_unitMany a_parts a_rows a_chosen a_settingMany a_shares a_yesTo a_noTo a_all a_gradeMany a_gPurity a_gKind a_gPrice) (fun u => True) := by
  unfold FX7_worth
  refine OK_bd (sX7_sortAll n hn v_bank v_whole v_lorries a_hand a_lTown a_isStruck a_lSampled a_lWeight a_unitMany a_parts a_rows a_chosen a_settingMany a_shares a_yesTo a_noTo a_all (gM) i0 i1 (by
      intro i hi
      have f4244 := i2 i
      omega) (by omega) (by omega) (by
      intro i hi
      have f4245 := i5 i
      omega) (by
      intro i hi
      have f4246 := i6 i
      omega) i7 i8 i9 i10) (fun u_2 p_u_2 => ?_)
  have v4247 : HQ ((4 : Int32)).toInt 4 := HQ.mk (by decide)
  refine OK_bd (sX7_sumOf n hn u_2.2.2.2.2 (4 : Int32) (by (rw [v4247.out]) <;> omega) (by (rw [v4247.out]) <;> omega)) (fun u_4 p_u_4 => ?_)
  refine OK_ck (by decide) ?_
  refine OK_lt (fun x_6 e_x_6 => ?_)
  have v4248 : HQ ((0 : Int32)).toInt 0 := HQ.mk (by decide)
  exact sFX7_worth_22L n hn v_bank v_lorries v_cost a_hand a_lTown a_isStruck a_lSampled a_lWeight a_unitMany a_chosen a_settingMany a_shares a_yesTo a_noTo a_gradeMany a_gPurity a_gKind a_gPrice gM n u_2.2.1 u_2.2.2.1 u_2.2.2.2.1 u_2.2.2.2.2 x_6 (0 : Int32) i0 i1 i2 i3 i4 i5 i6 i7 i8 i9 i10 i11 i12 (by (rw [v4248.out]) <;> omega) (by (rw [v4248.out]) <;> omega) (by (rw [v4248.out]) <;> omega)
set_option maxHeartbeats 2000000 in
theorem sX7_cost (n : Nat) (hn : n = 2200000000) (v_cost : Int32) (z1 : Int32) : OK (FX7_cost n v_cost z1) (fun u => ((0 ≤ (z1).toInt ∧ (z1).toInt ≤ 9999 ∧ (u.1).toInt = 1) ∨ (¬ (0 ≤ (z1).toInt ∧ (z1).toInt ≤ 9999) ∧ (u.1).toInt = 0))) := by
  unfold FX7_cost
  refine OK_if (fun c4249 => ?_) (fun c4249 => ?_)
  · have v4250 : HQ ((0 : Int32)).toInt 0 := HQ.mk (by decide)
    have f4251 := lt32k rfl v4250.out c4249
    exact OK_some (show ((0 ≤ (z1).toInt ∧ (z1).toInt ≤ 9999 ∧ ((0 : Int32)).toInt = 1) ∨ (¬ (0 ≤ (z1).toInt ∧ (z1).toInt ≤ 9999) ∧ ((0 : Int32)).toInt = 0)) from (by (rw [v4250.out]) <;> omega))
  · have v4252 : HQ ((0 : Int32)).toInt 0 := HQ.mk (by decide)
    have f4253 := nlt32k rfl v4252.out c4249
    refine OK_if (fun c4254 => ?_) (fun c4254 => ?_)
    · have v4255 : HQ ((9999 : Int32)).toInt 9999 := HQ.mk (by decide)
      have f4256 := le32k rfl v4255.out c4254
      have v4257 : HQ ((1 : Int32)).toInt 1 := HQ.mk (by decide)
      exact OK_some (show ((0 ≤ (z1).toInt ∧ (z1).toInt ≤ 9999 ∧ ((1 : Int32)).toInt = 1) ∨ (¬ (0 ≤ (z1).toInt ∧ (z1).toInt ≤ 9999) ∧ ((1 : Int32)).toInt = 0)) from (by (rw [v4257.out]) <;> omega))
    · have v4258 : HQ ((9999 : Int32)).toInt 9999 := HQ.mk (by decide)
      have f4259 := nle32k rfl v4258.out c4254
      exact OK_some (show ((0 ≤ (z1).toInt ∧ (z1).toInt ≤ 9999 ∧ ((0 : Int32)).toInt = 1) ∨ (¬ (0 ≤ (z1).toInt ∧ (z1).toInt ≤ 9999) ∧ ((0 : Int32)).toInt = 0)) from (by (rw [v4252.out]) <;> omega))
