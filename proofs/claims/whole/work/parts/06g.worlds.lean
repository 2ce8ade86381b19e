/-! THE START: both systems as they are made -/
def kμ : zM := fun k => if k = 54 then (fun _ => -1) else if k = 18 ∨ k = 25 ∨ k = 73 then (fun j => if j = 11 then 1 else 0) else (fun _ => 0)
def kν : zM := fun k => if k = 18 then (fun _ => -1) else if k = 1 then (fun j => if j = 4 then 1 else 0) else (fun _ => 0)
theorem k_ref4 (ad : Nat → Nat) (a b c d : Nat) (r : Nat → Nat) (h0 : ad a = r 0) (h1 : ad b = r 1) (h2 : ad c = r 2) (h3 : ad d = r 3) : (fun j => (([a, b, c, d] : List Nat)[j]?).map ad) = (fun i => if i < 4 then some (r i) else none) := by
  funext i
  match i with
  | 0 => show some (ad _) = some (r 0); rw [h0]
  | 1 => show some (ad _) = some (r 1); rw [h1]
  | 2 => show some (ad _) = some (r 2); rw [h2]
  | 3 => show some (ad _) = some (r 3); rw [h3]
  | k + 4 =>
    have h : ¬ (k + 4 < 4) := by omega
    show Option.map ad none = _
    rw [if_neg h]
    rfl
theorem k_ref5 (ad : Nat → Nat) (a b c d e : Nat) (r : Nat → Nat) (h0 : ad a = r 0) (h1 : ad b = r 1) (h2 : ad c = r 2) (h3 : ad d = r 3) (h4 : ad e = r 4) : (fun j => (([a, b, c, d, e] : List Nat)[j]?).map ad) = (fun i => if i < 5 then some (r i) else none) := by
  funext i
  match i with
  | 0 => show some (ad _) = some (r 0); rw [h0]
  | 1 => show some (ad _) = some (r 1); rw [h1]
  | 2 => show some (ad _) = some (r 2); rw [h2]
  | 3 => show some (ad _) = some (r 3); rw [h3]
  | 4 => show some (ad _) = some (r 4); rw [h4]
  | k + 5 =>
    have h : ¬ (k + 5 < 5) := by omega
    show Option.map ad none = _
    rw [if_neg h]
    rfl
set_option maxHeartbeats 8000000 in
set_option maxRecDepth 100000 in
theorem kC_world {cI cA cL : ClassId} {h0 : Nat} {w : va_W} (hw : kpX10 cI cA h0 w) : w.length = 85 ∧ (w.map Prod.fst)[0]? = some h0 ∧ ∀ (D : va_G) (ad : Nat → Nat) (A : Nat → Prop) (l : Launch), (∀ k, k < 85 → ad k = (w.map Prod.fst).getD k 0) → zW (D, (cI, cL, cA), ad, A, l) shC kμ = w := by
  obtain ⟨p1_o1, p1_w1, p1_o2, p1_w2, p1_o3, p1_w3, p1_o4, p1_w4, p1_o5, p1_w5, p1_o6, p1_w6, p1_o7, p1_w7, p1_o8, p1_w8, p1_o9, p1_w9, p1_o10, p1_w10, p1_o11, p1_w11, p1_o12, p1_w12, p1_o13, p1_w13, p1_o14, p1_w14, rfl, p1_hw1, p1_hw2, p1_hw3, p1_hw4, p1_hw5, p1_hw6, p1_hw7, p1_hw8, p1_hw9, p1_hw10, p1_hw11, p1_hw12, p1_hw13, p1_hw14⟩ := hw
  obtain ⟨p2_q1, p2_q2, p2_q3, p2_q4, p2_q5, rfl⟩ := p1_hw1
  obtain ⟨p3_q1, p3_q2, p3_q3, p3_q4, p3_o5, p3_w5, rfl, p3_hw5⟩ := p1_hw2
  obtain ⟨p4_q1, p4_q2, p4_q3, p4_q4, p4_q5, rfl⟩ := p3_hw5
  obtain ⟨p5_q1, p5_q2, p5_q3, p5_q4, p5_q5, p5_q6, rfl⟩ := p1_hw3
  obtain ⟨p6_q1, p6_q2, p6_q3, p6_q4, p6_q5, p6_q6, rfl⟩ := p1_hw4
  obtain ⟨p7_q1, p7_q2, p7_q3, p7_q4, rfl⟩ := p1_hw5
  obtain ⟨p8_q1, rfl⟩ := p1_hw6
  obtain ⟨p9_q1, p9_r2, p9_q3, p9_q4, rfl⟩ := p1_hw7
  obtain ⟨p10_q1, p10_r2, rfl⟩ := p1_hw8
  obtain ⟨p11_q1, p11_q2, p11_q3, p11_r4, rfl⟩ := p1_hw9
  obtain ⟨p12_q1, p12_q2, p12_q3, rfl⟩ := p1_hw10
  obtain ⟨p13_q1, rfl⟩ := p1_hw11
  obtain ⟨p14_q1, p14_q2, p14_q3, p14_q4, p14_q5, rfl⟩ := p1_hw12
  obtain ⟨p15_q1, p15_q2, p15_q3, p15_q4, p15_q5, p15_q6, rfl⟩ := p1_hw13
  obtain ⟨p16_q1, p16_q2, p16_q3, p16_q4, rfl⟩ := p1_hw14
  suffices h : ∀ w0 : va_W, w0 = [(h0, .inr (10, [.ref p1_o1, .ref p1_o2, .ref p1_o3, .ref p1_o4, .ref p1_o5, .ref p1_o6, .ref p1_o7, .ref p1_o8, .ref p1_o9, .ref p1_o10, .ref p1_o11, .ref p1_o12, .ref p1_o13, .ref p1_o14, .int 0])), (p1_o1, .inr (5, [.ref p2_q1, .ref p2_q2, .ref p2_q3, .ref p2_q4, .ref p2_q5, .int 0, .int 0])), (p2_q1, .inl (cI, 8, .inl (fun _ => 0))), (p2_q2, .inl (cI, 8, .inl (fun _ => 0))), (p2_q3, .inl (cI, 8, .inl (fun _ => 0))), (p2_q4, .inl (cI, 200, .inl (fun _ => 0))), (p2_q5, .inl (cI, 200, .inl (fun _ => 0))), (p1_o2, .inr (4, [.ref p3_q1, .ref p3_q2, .ref p3_q3, .ref p3_q4, .ref p3_o5, .int 0, .int 0, .int 0])), (p3_q1, .inl (cI, 200, .inl (fun _ => 0))), (p3_q2, .inl (cI, 201, .inl (fun _ => 0))), (p3_q3, .inl (cI, 201, .inl (fun _ => 0))), (p3_q4, .inl (cI, 201, .inl (fun _ => 0))), (p3_o5, .inr (5, [.ref p4_q1, .ref p4_q2, .ref p4_q3, .ref p4_q4, .ref p4_q5, .int 0, .int 0])), (p4_q1, .inl (cI, 8, .inl (fun _ => 0))), (p4_q2, .inl (cI, 8, .inl (fun _ => 0))), (p4_q3, .inl (cI, 8, .inl (fun _ => 0))), (p4_q4, .inl (cI, 200, .inl (fun _ => 0))), (p4_q5, .inl (cI, 200, .inl (fun _ => 0))), (p1_o3, .inr (8, [.ref p1_o1, .ref p5_q1, .ref p5_q2, .ref p5_q3, .ref p5_q4, .ref p5_q5, .ref p5_q6, .int 0, .int 0, .int 0, .int 0, .int 1])), (p5_q1, .inl (cI, 6, .inl (fun _ => 0))), (p5_q2, .inl (cI, 6, .inl (fun _ => 0))), (p5_q3, .inl (cI, 6, .inl (fun _ => 0))), (p5_q4, .inl (cI, 6, .inl (fun _ => 0))), (p5_q5, .inl (cI, 16, .inl (fun _ => 0))), (p5_q6, .inl (cI, 5, .inl (fun _ => 0))), (p1_o4, .inr (8, [.ref p1_o1, .ref p6_q1, .ref p6_q2, .ref p6_q3, .ref p6_q4, .ref p6_q5, .ref p6_q6, .int 0, .int 0, .int 0, .int 0, .int 1])), (p6_q1, .inl (cI, 6, .inl (fun _ => 0))), (p6_q2, .inl (cI, 6, .inl (fun _ => 0))), (p6_q3, .inl (cI, 6, .inl (fun _ => 0))), (p6_q4, .inl (cI, 6, .inl (fun _ => 0))), (p6_q5, .inl (cI, 16, .inl (fun _ => 0))), (p6_q6, .inl (cI, 5, .inl (fun _ => 0))), (p1_o5, .inr (1, [.ref p7_q1, .ref p7_q2, .ref p7_q3, .ref p7_q4, .int 0, .int 0, .int 0])), (p7_q1, .inl (cI, 6, .inl (fun _ => 0))), (p7_q2, .inl (cI, 6, .inl (fun _ => 0))), (p7_q3, .inl (cI, 6, .inl (fun _ => 0))), (p7_q4, .inl (cI, 6, .inl (fun _ => 0))), (p1_o6, .inr (2, [.ref p1_o3, .ref p1_o4, .ref p8_q1])), (p8_q1, .inl (cI, 16, .inl (fun _ => 0))), (p1_o7, .inr (0, [.ref p1_o3, .ref p1_o4, .ref p9_q1, .ref p9_q3, .ref p9_q4, .int 0, .int 0, .int 0, .int 0])), (p9_q1, .inl (cA, 4, .inr (.inr (.inr (.inr (fun i => if i < 4 then some (p9_r2 i) else none)))))), (p9_r2 0, .inl (cI, 6, .inl (fun _ => 0))), (p9_r2 1, .inl (cI, 6, .inl (fun _ => 0))), (p9_r2 2, .inl (cI, 6, .inl (fun _ => 0))), (p9_r2 3, .inl (cI, 6, .inl (fun _ => 0))), (p9_q3, .inl (cI, 4, .inl (fun _ => 0))), (p9_q4, .inl (cI, 4, .inl (fun _ => 0))), (p1_o8, .inr (3, [.ref p1_o3, .ref p1_o4, .ref p10_q1, .int 0])), (p10_q1, .inl (cA, 4, .inr (.inr (.inr (.inr (fun i => if i < 4 then some (p10_r2 i) else none)))))), (p10_r2 0, .inl (cI, 3, .inl (fun _ => 0))), (p10_r2 1, .inl (cI, 3, .inl (fun _ => 0))), (p10_r2 2, .inl (cI, 3, .inl (fun _ => 0))), (p10_r2 3, .inl (cI, 3, .inl (fun _ => 0))), (p1_o9, .inr (6, [.ref p11_q1, .ref p11_q2, .ref p11_q3])), (p11_q1, .inl (cI, 4, .inl (fun _ => -1))), (p11_q2, .inl (cI, 4, .inl (fun _ => 0))), (p11_q3, .inl (cA, 4, .inr (.inr (.inr (.inr (fun i => if i < 4 then some (p11_r4 i) else none)))))), (p11_r4 0, .inl (cI, 40, .inl (fun _ => 0))), (p11_r4 1, .inl (cI, 40, .inl (fun _ => 0))), (p11_r4 2, .inl (cI, 40, .inl (fun _ => 0))), (p11_r4 3, .inl (cI, 40, .inl (fun _ => 0))), (p1_o10, .inr (7, [.ref p1_o3, .ref p1_o9, .ref p12_q1, .ref p12_q2, .ref p12_q3])), (p12_q1, .inl (cI, 4, .inl (fun _ => 0))), (p12_q2, .inl (cI, 4, .inl (fun _ => 0))), (p12_q3, .inl (cI, 4, .inl (fun _ => 0))), (p1_o11, .inr (9, [.ref p13_q1, .int 0, .int 0, .int 0, .int 0, .int 0])), (p13_q1, .inl (cI, 30, .inl (fun _ => 0))), (p1_o12, .inr (5, [.ref p14_q1, .ref p14_q2, .ref p14_q3, .ref p14_q4, .ref p14_q5, .int 0, .int 0])), (p14_q1, .inl (cI, 8, .inl (fun _ => 0))), (p14_q2, .inl (cI, 8, .inl (fun _ => 0))), (p14_q3, .inl (cI, 8, .inl (fun _ => 0))), (p14_q4, .inl (cI, 200, .inl (fun _ => 0))), (p14_q5, .inl (cI, 200, .inl (fun _ => 0))), (p1_o13, .inr (8, [.ref p1_o12, .ref p15_q1, .ref p15_q2, .ref p15_q3, .ref p15_q4, .ref p15_q5, .ref p15_q6, .int 0, .int 0, .int 0, .int 0, .int 1])), (p15_q1, .inl (cI, 6, .inl (fun _ => 0))), (p15_q2, .inl (cI, 6, .inl (fun _ => 0))), (p15_q3, .inl (cI, 6, .inl (fun _ => 0))), (p15_q4, .inl (cI, 6, .inl (fun _ => 0))), (p15_q5, .inl (cI, 16, .inl (fun _ => 0))), (p15_q6, .inl (cI, 5, .inl (fun _ => 0))), (p1_o14, .inr (1, [.ref p16_q1, .ref p16_q2, .ref p16_q3, .ref p16_q4, .int 0, .int 0, .int 0])), (p16_q1, .inl (cI, 6, .inl (fun _ => 0))), (p16_q2, .inl (cI, 6, .inl (fun _ => 0))), (p16_q3, .inl (cI, 6, .inl (fun _ => 0))), (p16_q4, .inl (cI, 6, .inl (fun _ => 0)))] → (w0.length = 85 ∧ (w0.map Prod.fst)[0]? = some h0 ∧ ∀ (D : va_G) (ad : Nat → Nat) (A : Nat → Prop) (l : Launch), (∀ k, k < 85 → ad k = (w0.map Prod.fst).getD k 0) → zW (D, (cI, cL, cA), ad, A, l) shC kμ = w0) from h _ rfl
  intro w0 hw0
  subst hw0
  refine ⟨rfl, rfl, fun D ad A l had => ?_⟩
  have e0 : ad 0 = h0 := had 0 (Nat.le_of_ble_eq_true rfl)
  have e1 : ad 1 = p1_o1 := had 1 (Nat.le_of_ble_eq_true rfl)
  have e2 : ad 2 = p2_q1 := had 2 (Nat.le_of_ble_eq_true rfl)
  have e3 : ad 3 = p2_q2 := had 3 (Nat.le_of_ble_eq_true rfl)
  have e4 : ad 4 = p2_q3 := had 4 (Nat.le_of_ble_eq_true rfl)
  have e5 : ad 5 = p2_q4 := had 5 (Nat.le_of_ble_eq_true rfl)
  have e6 : ad 6 = p2_q5 := had 6 (Nat.le_of_ble_eq_true rfl)
  have e7 : ad 7 = p1_o2 := had 7 (Nat.le_of_ble_eq_true rfl)
  have e8 : ad 8 = p3_q1 := had 8 (Nat.le_of_ble_eq_true rfl)
  have e9 : ad 9 = p3_q2 := had 9 (Nat.le_of_ble_eq_true rfl)
  have e10 : ad 10 = p3_q3 := had 10 (Nat.le_of_ble_eq_true rfl)
  have e11 : ad 11 = p3_q4 := had 11 (Nat.le_of_ble_eq_true rfl)
  have e12 : ad 12 = p3_o5 := had 12 (Nat.le_of_ble_eq_true rfl)
  have e13 : ad 13 = p4_q1 := had 13 (Nat.le_of_ble_eq_true rfl)
  have e14 : ad 14 = p4_q2 := had 14 (Nat.le_of_ble_eq_true rfl)
  have e15 : ad 15 = p4_q3 := had 15 (Nat.le_of_ble_eq_true rfl)
  have e16 : ad 16 = p4_q4 := had 16 (Nat.le_of_ble_eq_true rfl)
  have e17 : ad 17 = p4_q5 := had 17 (Nat.le_of_ble_eq_true rfl)
  have e18 : ad 18 = p1_o3 := had 18 (Nat.le_of_ble_eq_true rfl)
  have e19 : ad 19 = p5_q1 := had 19 (Nat.le_of_ble_eq_true rfl)
  have e20 : ad 20 = p5_q2 := had 20 (Nat.le_of_ble_eq_true rfl)
  have e21 : ad 21 = p5_q3 := had 21 (Nat.le_of_ble_eq_true rfl)
  have e22 : ad 22 = p5_q4 := had 22 (Nat.le_of_ble_eq_true rfl)
  have e23 : ad 23 = p5_q5 := had 23 (Nat.le_of_ble_eq_true rfl)
  have e24 : ad 24 = p5_q6 := had 24 (Nat.le_of_ble_eq_true rfl)
  have e25 : ad 25 = p1_o4 := had 25 (Nat.le_of_ble_eq_true rfl)
  have e26 : ad 26 = p6_q1 := had 26 (Nat.le_of_ble_eq_true rfl)
  have e27 : ad 27 = p6_q2 := had 27 (Nat.le_of_ble_eq_true rfl)
  have e28 : ad 28 = p6_q3 := had 28 (Nat.le_of_ble_eq_true rfl)
  have e29 : ad 29 = p6_q4 := had 29 (Nat.le_of_ble_eq_true rfl)
  have e30 : ad 30 = p6_q5 := had 30 (Nat.le_of_ble_eq_true rfl)
  have e31 : ad 31 = p6_q6 := had 31 (Nat.le_of_ble_eq_true rfl)
  have e32 : ad 32 = p1_o5 := had 32 (Nat.le_of_ble_eq_true rfl)
  have e33 : ad 33 = p7_q1 := had 33 (Nat.le_of_ble_eq_true rfl)
  have e34 : ad 34 = p7_q2 := had 34 (Nat.le_of_ble_eq_true rfl)
  have e35 : ad 35 = p7_q3 := had 35 (Nat.le_of_ble_eq_true rfl)
  have e36 : ad 36 = p7_q4 := had 36 (Nat.le_of_ble_eq_true rfl)
  have e37 : ad 37 = p1_o6 := had 37 (Nat.le_of_ble_eq_true rfl)
  have e38 : ad 38 = p8_q1 := had 38 (Nat.le_of_ble_eq_true rfl)
  have e39 : ad 39 = p1_o7 := had 39 (Nat.le_of_ble_eq_true rfl)
  have e40 : ad 40 = p9_q1 := had 40 (Nat.le_of_ble_eq_true rfl)
  have e41 : ad 41 = p9_r2 0 := had 41 (Nat.le_of_ble_eq_true rfl)
  have e42 : ad 42 = p9_r2 1 := had 42 (Nat.le_of_ble_eq_true rfl)
  have e43 : ad 43 = p9_r2 2 := had 43 (Nat.le_of_ble_eq_true rfl)
  have e44 : ad 44 = p9_r2 3 := had 44 (Nat.le_of_ble_eq_true rfl)
  have e45 : ad 45 = p9_q3 := had 45 (Nat.le_of_ble_eq_true rfl)
  have e46 : ad 46 = p9_q4 := had 46 (Nat.le_of_ble_eq_true rfl)
  have e47 : ad 47 = p1_o8 := had 47 (Nat.le_of_ble_eq_true rfl)
  have e48 : ad 48 = p10_q1 := had 48 (Nat.le_of_ble_eq_true rfl)
  have e49 : ad 49 = p10_r2 0 := had 49 (Nat.le_of_ble_eq_true rfl)
  have e50 : ad 50 = p10_r2 1 := had 50 (Nat.le_of_ble_eq_true rfl)
  have e51 : ad 51 = p10_r2 2 := had 51 (Nat.le_of_ble_eq_true rfl)
  have e52 : ad 52 = p10_r2 3 := had 52 (Nat.le_of_ble_eq_true rfl)
  have e53 : ad 53 = p1_o9 := had 53 (Nat.le_of_ble_eq_true rfl)
  have e54 : ad 54 = p11_q1 := had 54 (Nat.le_of_ble_eq_true rfl)
  have e55 : ad 55 = p11_q2 := had 55 (Nat.le_of_ble_eq_true rfl)
  have e56 : ad 56 = p11_q3 := had 56 (Nat.le_of_ble_eq_true rfl)
  have e57 : ad 57 = p11_r4 0 := had 57 (Nat.le_of_ble_eq_true rfl)
  have e58 : ad 58 = p11_r4 1 := had 58 (Nat.le_of_ble_eq_true rfl)
  have e59 : ad 59 = p11_r4 2 := had 59 (Nat.le_of_ble_eq_true rfl)
  have e60 : ad 60 = p11_r4 3 := had 60 (Nat.le_of_ble_eq_true rfl)
  have e61 : ad 61 = p1_o10 := had 61 (Nat.le_of_ble_eq_true rfl)
  have e62 : ad 62 = p12_q1 := had 62 (Nat.le_of_ble_eq_true rfl)
  have e63 : ad 63 = p12_q2 := had 63 (Nat.le_of_ble_eq_true rfl)
  have e64 : ad 64 = p12_q3 := had 64 (Nat.le_of_ble_eq_true rfl)
  have e65 : ad 65 = p1_o11 := had 65 (Nat.le_of_ble_eq_true rfl)
  have e66 : ad 66 = p13_q1 := had 66 (Nat.le_of_ble_eq_true rfl)
  have e67 : ad 67 = p1_o12 := had 67 (Nat.le_of_ble_eq_true rfl)
  have e68 : ad 68 = p14_q1 := had 68 (Nat.le_of_ble_eq_true rfl)
  have e69 : ad 69 = p14_q2 := had 69 (Nat.le_of_ble_eq_true rfl)
  have e70 : ad 70 = p14_q3 := had 70 (Nat.le_of_ble_eq_true rfl)
  have e71 : ad 71 = p14_q4 := had 71 (Nat.le_of_ble_eq_true rfl)
  have e72 : ad 72 = p14_q5 := had 72 (Nat.le_of_ble_eq_true rfl)
  have e73 : ad 73 = p1_o13 := had 73 (Nat.le_of_ble_eq_true rfl)
  have e74 : ad 74 = p15_q1 := had 74 (Nat.le_of_ble_eq_true rfl)
  have e75 : ad 75 = p15_q2 := had 75 (Nat.le_of_ble_eq_true rfl)
  have e76 : ad 76 = p15_q3 := had 76 (Nat.le_of_ble_eq_true rfl)
  have e77 : ad 77 = p15_q4 := had 77 (Nat.le_of_ble_eq_true rfl)
  have e78 : ad 78 = p15_q5 := had 78 (Nat.le_of_ble_eq_true rfl)
  have e79 : ad 79 = p15_q6 := had 79 (Nat.le_of_ble_eq_true rfl)
  have e80 : ad 80 = p1_o14 := had 80 (Nat.le_of_ble_eq_true rfl)
  have e81 : ad 81 = p16_q1 := had 81 (Nat.le_of_ble_eq_true rfl)
  have e82 : ad 82 = p16_q2 := had 82 (Nat.le_of_ble_eq_true rfl)
  have e83 : ad 83 = p16_q3 := had 83 (Nat.le_of_ble_eq_true rfl)
  have e84 : ad 84 = p16_q4 := had 84 (Nat.le_of_ble_eq_true rfl)
  clear had
  have f0 := k_ref4 ad 41 42 43 44 p9_r2 e41 e42 e43 e44
  have f1 := k_ref4 ad 49 50 51 52 p10_r2 e49 e50 e51 e52
  have f2 := k_ref4 ad 57 58 59 60 p11_r4 e57 e58 e59 e60
  simp only [zW, shC, zWl, zE, zFl, zad, Nat.reduceAdd, f0, f1, f2, e0, e1, e2, e3, e4, e5, e6, e7, e8, e9, e10, e11, e12, e13, e14, e15, e16, e17, e18, e19, e20, e21, e22, e23, e24, e25, e26, e27, e28, e29, e30, e31, e32, e33, e34, e35, e36, e37, e38, e39, e40, e41, e42, e43, e44, e45, e46, e47, e48, e49, e50, e51, e52, e53, e54, e55, e56, e57, e58, e59, e60, e61, e62, e63, e64, e65, e66, e67, e68, e69, e70, e71, e72, e73, e74, e75, e76, e77, e78, e79, e80, e81, e82, e83, e84]
  rfl
set_option maxHeartbeats 8000000 in
set_option maxRecDepth 100000 in
theorem kR_world {cI cA cL : ClassId} {h0 : Nat} {w : va_W} (hw : kpX11 cI cL cA h0 w) : w.length = 25 ∧ (w.map Prod.fst)[0]? = some h0 ∧ ∀ (D : va_G) (ad : Nat → Nat) (A : Nat → Prop) (l : Launch), (∀ k, k < 25 → ad k = (w.map Prod.fst).getD k 0) → zW (D, (cI, cL, cA), ad, A, l) shR kν = w := by
  obtain ⟨p17_q1, p17_q2, p17_q3, p17_q4, p17_q5, p17_q6, p17_q7, p17_q8, p17_q9, p17_r10, p17_q11, p17_q12, p17_q13, p17_q14, p17_q15, p17_q16, p17_q17, p17_q18, p17_q19, p17_q20, rfl⟩ := hw
  suffices h : ∀ w0 : va_W, w0 = [(h0, .inr (11, [.ref p17_q1, .ref p17_q2, .ref p17_q3, .int 0, .ref p17_q4, .ref p17_q5, .int 0, .ref p17_q6, .int 0, .int 0, .int 0, .int 0, .int 0, .int 0, .int 0, .ref p17_q7, .ref p17_q8, .ref p17_q9, .ref p17_q11, .ref p17_q12, .int 0, .int 0, .int 0, .int 0, .int 0, .int 0, .ref p17_q13, .int 0, .ref p17_q14, .ref p17_q15, .ref p17_q16, .ref p17_q17, .ref p17_q18, .ref p17_q19, .ref p17_q20, .int 0, .int 0, .int 0, .int 0, .int 0])), (p17_q1, .inl (cI, 521, .inl (fun j => if j = 4 then 1 else 0))), (p17_q2, .inl (cI, 521, .inl (fun _ => 0))), (p17_q3, .inl (cI, 521, .inl (fun _ => 0))), (p17_q4, .inl (cI, 6, .inl (fun _ => 0))), (p17_q5, .inl (cI, 200, .inl (fun _ => 0))), (p17_q6, .inl (cI, 200, .inl (fun _ => 0))), (p17_q7, .inl (cI, 8, .inl (fun _ => 0))), (p17_q8, .inl (cI, 16, .inl (fun _ => 0))), (p17_q9, .inl (cA, 5, .inr (.inr (.inr (.inr (fun i => if i < 5 then some (p17_r10 i) else none)))))), (p17_r10 0, .inl (cI, 8, .inl (fun _ => 0))), (p17_r10 1, .inl (cI, 8, .inl (fun _ => 0))), (p17_r10 2, .inl (cI, 8, .inl (fun _ => 0))), (p17_r10 3, .inl (cI, 8, .inl (fun _ => 0))), (p17_r10 4, .inl (cI, 8, .inl (fun _ => 0))), (p17_q11, .inl (cI, 4, .inl (fun _ => 0))), (p17_q12, .inl (cI, 4, .inl (fun _ => 0))), (p17_q13, .inl (cI, 12, .inl (fun _ => 0))), (p17_q14, .inl (cI, 4, .inl (fun _ => -1))), (p17_q15, .inl (cI, 4, .inl (fun _ => 0))), (p17_q16, .inl (cL, 160, .inr (.inl (fun _ => 0)))), (p17_q17, .inl (cI, 4, .inl (fun _ => 0))), (p17_q18, .inl (cI, 4, .inl (fun _ => 0))), (p17_q19, .inl (cI, 4, .inl (fun _ => 0))), (p17_q20, .inl (cI, 30, .inl (fun _ => 0)))] → (w0.length = 25 ∧ (w0.map Prod.fst)[0]? = some h0 ∧ ∀ (D : va_G) (ad : Nat → Nat) (A : Nat → Prop) (l : Launch), (∀ k, k < 25 → ad k = (w0.map Prod.fst).getD k 0) → zW (D, (cI, cL, cA), ad, A, l) shR kν = w0) from h _ rfl
  intro w0 hw0
  subst hw0
  refine ⟨rfl, rfl, fun D ad A l had => ?_⟩
  have e0 : ad 0 = h0 := had 0 (Nat.le_of_ble_eq_true rfl)
  have e1 : ad 1 = p17_q1 := had 1 (Nat.le_of_ble_eq_true rfl)
  have e2 : ad 2 = p17_q2 := had 2 (Nat.le_of_ble_eq_true rfl)
  have e3 : ad 3 = p17_q3 := had 3 (Nat.le_of_ble_eq_true rfl)
  have e4 : ad 4 = p17_q4 := had 4 (Nat.le_of_ble_eq_true rfl)
  have e5 : ad 5 = p17_q5 := had 5 (Nat.le_of_ble_eq_true rfl)
  have e6 : ad 6 = p17_q6 := had 6 (Nat.le_of_ble_eq_true rfl)
  have e7 : ad 7 = p17_q7 := had 7 (Nat.le_of_ble_eq_true rfl)
  have e8 : ad 8 = p17_q8 := had 8 (Nat.le_of_ble_eq_true rfl)
  have e9 : ad 9 = p17_q9 := had 9 (Nat.le_of_ble_eq_true rfl)
  have e10 : ad 10 = p17_r10 0 := had 10 (Nat.le_of_ble_eq_true rfl)
  have e11 : ad 11 = p17_r10 1 := had 11 (Nat.le_of_ble_eq_true rfl)
  have e12 : ad 12 = p17_r10 2 := had 12 (Nat.le_of_ble_eq_true rfl)
  have e13 : ad 13 = p17_r10 3 := had 13 (Nat.le_of_ble_eq_true rfl)
  have e14 : ad 14 = p17_r10 4 := had 14 (Nat.le_of_ble_eq_true rfl)
  have e15 : ad 15 = p17_q11 := had 15 (Nat.le_of_ble_eq_true rfl)
  have e16 : ad 16 = p17_q12 := had 16 (Nat.le_of_ble_eq_true rfl)
  have e17 : ad 17 = p17_q13 := had 17 (Nat.le_of_ble_eq_true rfl)
  have e18 : ad 18 = p17_q14 := had 18 (Nat.le_of_ble_eq_true rfl)
  have e19 : ad 19 = p17_q15 := had 19 (Nat.le_of_ble_eq_true rfl)
  have e20 : ad 20 = p17_q16 := had 20 (Nat.le_of_ble_eq_true rfl)
  have e21 : ad 21 = p17_q17 := had 21 (Nat.le_of_ble_eq_true rfl)
  have e22 : ad 22 = p17_q18 := had 22 (Nat.le_of_ble_eq_true rfl)
  have e23 : ad 23 = p17_q19 := had 23 (Nat.le_of_ble_eq_true rfl)
  have e24 : ad 24 = p17_q20 := had 24 (Nat.le_of_ble_eq_true rfl)
  clear had
  have f0 := k_ref5 ad 10 11 12 13 14 p17_r10 e10 e11 e12 e13 e14
  simp only [zW, shR, zWl, zE, zFl, zad, Nat.reduceAdd, f0, e0, e1, e2, e3, e4, e5, e6, e7, e8, e9, e10, e11, e12, e13, e14, e15, e16, e17, e18, e19, e20, e21, e22, e23, e24]
  rfl
