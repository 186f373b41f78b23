/-! the class's asking methods -/
theorem oQ {f : qFn} {n : Nat} {pc b : Nat → Nat} {us : List (Nat → Nat)} {kp : Nat → Option (Nat → Nat)} {rw B : List Int64} {tx rt : List Nat} {hd sw : List (Nat × Nat)} {A : Int32} {r' : Option Value} {I' : pI} {J' : pJ} {R' : pR} (e : f n pc b (ruE rt) rw hd sw = (A, B)) (hr : r' = some (.int A)) (hX : XA I' J' (n, pc, b, us, kp, B, tx, rt, hd, sw)) (hR : R' = RX) : oP (qOp f (n, pc, b, us, kp, rw, tx, rt, hd, sw)) r' I' J' R' := by
  refine ⟨?_, ?_, hR⟩
  · rw [qOp, e]; exact hr
  · rw [qOp, e]; exact hX
def inM (o : Option Nat) (rw : List Int64) (g : Nat → Int32 × List Int64) : Int32 × List Int64 := match o with
  | none => (-1, rw)
  | some N => g N
def qLater (v : Int32) : qFn := fun n pc b E rw hd sw => inM (inOf 0 99 v) rw (fun N => (nI (hrs n pc E N b 29), [lI (cdn n pc E b N), lI (onW n (hrs n pc E N b))]))
set_option maxRecDepth 100000 in
set_option maxHeartbeats 2000000 in
theorem xo_later {d : Nat} {s : aSt} {I : pI} {J : pJ} (hA : XA I J s) (hW : WA s) (v : Int32) : PC SX (d + 8) yX11_later cX11_later 2 (some .int) [.ref 0, .int v] (I) (J) (RX) (oP (qOp (qLater v) s)) := by
  refine PC.of [some (.ref 0), some (.int v)] rfl rfl (Nat.le_of_ble_eq_true rfl) ?_
  obtain ⟨n, pc, b, us, kp, rw, tx, rt, hd, sw⟩ := s
  obtain ⟨aM, aE, aN, aT, aU, aK, aH, aG⟩ := id hA
  obtain ⟨aW, -, -⟩ := id hW
  rcases inOf_cases (lo := 0) (hi := 99) (by decide) v (by decide) with ⟨N, h1, h2, rfl, hi⟩ | ⟨hi, ho⟩
  · refine pw_iload_n 1 rfl dX11_later_0 rfl ?_
    refine pw_iconst (v := nI 0) 2 rfl dX11_later_1 rfl ?_
    refine pw_bipush (v := nI 99) 4 rfl dX11_later_2 rfl ?_
    refine pw_callSP (as := [_, _, _]) 7 rfl dX11_later_4 mX11_174 sX11_outside (x_outside (d := d) _ _ _) ⟨rfl, by decide, by decide, show (parseMethodDescriptor yX11_outside.desc).map (fun d => d.parameters.length) = some 3 by decide +kernel⟩ (by omega) (by decide) (Nat.le_of_ble_eq_true rfl) rfl ?_
    refine pw_if_eq (tgt := 14) 10 rfl dX11_later_7 rfl (fun h7 => ?_) (fun h7 => absurd (by rw [out_in h1 h2 (by decide)]; rfl) h7)
    refine pw_aload_n 15 rfl dX11_later_14 rfl ?_
    refine pw_getR 18 rfl dX11_later_15 fX11_52 (by first | rfl | assumption | exact rowS hh | exact mtS hm | exact ruS hr | exact mtA1 hm | exact mtA2 hm | exact mtA3 hm | exact mtA4 hm | exact mtA5 hm | exact mtA6 hm | exact mtA7 hm | exact ruA1 hr | exact ruA2 hr | exact ruA3 hr) rfl (by first | rfl | assumption | exact mtR0 hm | exact mtR1 hm | exact mtR2 hm | exact mtR3 hm | exact mtR4 hm | exact mtR5 hm | exact mtR6 hm | exact ruR0 hr | exact ruR1 hr | exact ruR3 hr) ?_
    refine pw_iload_n 19 rfl dX11_later_18 rfl ?_
    refine pw_callV (as := [_]) 22 rfl dX11_later_19 mX11_236 vX3_ownerBehind (x_ownerBehind (d := d) aM aW.1 aE h2) (by first | rfl | assumption | exact rowS hh | exact mtS hm | exact ruS hr | exact mtA1 hm | exact mtA2 hm | exact mtA3 hm | exact mtA4 hm | exact mtA5 hm | exact mtA6 hm | exact mtA7 hm | exact ruA1 hr | exact ruA2 hr | exact ruA3 hr) rfl (by decide) ⟨rfl, by decide, by decide, show (parseMethodDescriptor yX3_ownerBehind.desc).map (fun d => d.parameters.length) = some 1 by decide +kernel⟩ (by omega) (by decide) (Nat.le_of_ble_eq_true rfl) rfl (fun r19 I19 J19 R19 c19 => ?_)
    obtain ⟨rfl, p1, p2, rfl⟩ := c19
    rotate_left
    refine pw_iret dX11_later_22 rfl ?_
    rotate_left
    exact oQ (by unfold qLater; rw [hi]; rfl) rfl (XA_rw hA (fW_O p2) p1) rfl
  · have e : qLater v n pc b (ruE rt) rw hd sw = (-1, rw) := by unfold qLater; rw [hi]; rfl
    refine pw_iload_n 1 rfl dX11_later_0 rfl ?_
    refine pw_iconst (v := nI 0) 2 rfl dX11_later_1 rfl ?_
    refine pw_bipush (v := nI 99) 4 rfl dX11_later_2 rfl ?_
    refine pw_callSP (as := [_, _, _]) 7 rfl dX11_later_4 mX11_174 sX11_outside (x_outside (d := d) _ _ _) ⟨rfl, by decide, by decide, show (parseMethodDescriptor yX11_outside.desc).map (fun d => d.parameters.length) = some 3 by decide +kernel⟩ (by omega) (by decide) (Nat.le_of_ble_eq_true rfl) rfl ?_
    refine pw_if_eq (tgt := 14) 10 rfl dX11_later_7 rfl (fun h7 => absurd h7 (by rw [outV_y ho]; decide)) (fun h7 => ?_)
    refine pw_iconst (v := -1) 11 rfl dX11_later_10 rfl ?_
    refine pw_goto (tgt := 22) dX11_later_11 rfl ?_
    refine pw_iret dX11_later_22 rfl ?_
    rotate_left
    exact oQ e rfl hA rfl
def qShares (v : Int32) : qFn := fun n pc b E rw hd sw => inM (inOf 1 99 v) rw (fun N => (nI (cntP (fun t => decide (hrs n pc E (t + 1) b 29 = 7)) N), nseq (fun q => lI (cntP (fun t => decide (hrs n pc E (t + 1) b 29 = q)) N)) n))
set_option maxRecDepth 100000 in
set_option maxHeartbeats 2000000 in
theorem xo_shares {d : Nat} {s : aSt} {I : pI} {J : pJ} (hA : XA I J s) (hW : WA s) (v : Int32) : PC SX (d + 8) yX11_shares cX11_shares 2 (some .int) [.ref 0, .int v] (I) (J) (RX) (oP (qOp (qShares v) s)) := by
  refine PC.of [some (.ref 0), some (.int v)] rfl rfl (Nat.le_of_ble_eq_true rfl) ?_
  obtain ⟨n, pc, b, us, kp, rw, tx, rt, hd, sw⟩ := s
  obtain ⟨aM, aE, aN, aT, aU, aK, aH, aG⟩ := id hA
  obtain ⟨aW, -, -⟩ := id hW
  rcases inOf_cases (lo := 1) (hi := 99) (by decide) v (by decide) with ⟨N, h1, h2, rfl, hi⟩ | ⟨hi, ho⟩
  · refine pw_iload_n 1 rfl dX11_shares_0 rfl ?_
    refine pw_iconst (v := nI 1) 2 rfl dX11_shares_1 rfl ?_
    refine pw_bipush (v := nI 99) 4 rfl dX11_shares_2 rfl ?_
    refine pw_callSP (as := [_, _, _]) 7 rfl dX11_shares_4 mX11_174 sX11_outside (x_outside (d := d) _ _ _) ⟨rfl, by decide, by decide, show (parseMethodDescriptor yX11_outside.desc).map (fun d => d.parameters.length) = some 3 by decide +kernel⟩ (by omega) (by decide) (Nat.le_of_ble_eq_true rfl) rfl ?_
    refine pw_if_eq (tgt := 14) 10 rfl dX11_shares_7 rfl (fun h7 => ?_) (fun h7 => absurd (by rw [out_in h1 h2 (by decide)]; rfl) h7)
    refine pw_aload_n 15 rfl dX11_shares_14 rfl ?_
    refine pw_getR 18 rfl dX11_shares_15 fX11_52 (by first | rfl | assumption | exact rowS hh | exact mtS hm | exact ruS hr | exact mtA1 hm | exact mtA2 hm | exact mtA3 hm | exact mtA4 hm | exact mtA5 hm | exact mtA6 hm | exact mtA7 hm | exact ruA1 hr | exact ruA2 hr | exact ruA3 hr) rfl (by first | rfl | assumption | exact mtR0 hm | exact mtR1 hm | exact mtR2 hm | exact mtR3 hm | exact mtR4 hm | exact mtR5 hm | exact mtR6 hm | exact ruR0 hr | exact ruR1 hr | exact ruR3 hr) ?_
    refine pw_iload_n 19 rfl dX11_shares_18 rfl ?_
    refine pw_callV (as := [_]) 22 rfl dX11_shares_19 mX11_242 vX3_ownedBy (x_ownedBy (d := d + 1) aM aW.1 aE h2) (by first | rfl | assumption | exact rowS hh | exact mtS hm | exact ruS hr | exact mtA1 hm | exact mtA2 hm | exact mtA3 hm | exact mtA4 hm | exact mtA5 hm | exact mtA6 hm | exact mtA7 hm | exact ruA1 hr | exact ruA2 hr | exact ruA3 hr) rfl (by decide) ⟨rfl, by decide, by decide, show (parseMethodDescriptor yX3_ownedBy.desc).map (fun d => d.parameters.length) = some 1 by decide +kernel⟩ (by omega) (by decide) (Nat.le_of_ble_eq_true rfl) rfl (fun r19 I19 J19 R19 c19 => ?_)
    obtain ⟨rfl, p1, p2, rfl⟩ := c19
    rotate_left
    refine pw_iret dX11_shares_22 rfl ?_
    rotate_left
    exact oQ (by unfold qShares; rw [hi]; rfl) rfl (XA_rw hA (fW_O p2) p1) rfl
  · have e : qShares v n pc b (ruE rt) rw hd sw = (-1, rw) := by unfold qShares; rw [hi]; rfl
    refine pw_iload_n 1 rfl dX11_shares_0 rfl ?_
    refine pw_iconst (v := nI 1) 2 rfl dX11_shares_1 rfl ?_
    refine pw_bipush (v := nI 99) 4 rfl dX11_shares_2 rfl ?_
    refine pw_callSP (as := [_, _, _]) 7 rfl dX11_shares_4 mX11_174 sX11_outside (x_outside (d := d) _ _ _) ⟨rfl, by decide, by decide, show (parseMethodDescriptor yX11_outside.desc).map (fun d => d.parameters.length) = some 3 by decide +kernel⟩ (by omega) (by decide) (Nat.le_of_ble_eq_true rfl) rfl ?_
    refine pw_if_eq (tgt := 14) 10 rfl dX11_shares_7 rfl (fun h7 => absurd h7 (by rw [outV_y ho]; decide)) (fun h7 => ?_)
    refine pw_iconst (v := -1) 11 rfl dX11_shares_10 rfl ?_
    refine pw_goto (tgt := 22) dX11_shares_11 rfl ?_
    refine pw_iret dX11_shares_22 rfl ?_
    rotate_left
    exact oQ e rfl hA rfl
def qOrder (v : Int32) : qFn := fun n pc b E rw hd sw => inM (inOf 1 99 v) rw (fun N => (nI (cdq n pc E b N), tdn n pc E b N))
set_option maxRecDepth 100000 in
set_option maxHeartbeats 2000000 in
theorem xo_order {d : Nat} {s : aSt} {I : pI} {J : pJ} (hA : XA I J s) (hW : WA s) (v : Int32) : PC SX (d + 8) yX11_order cX11_order 2 (some .int) [.ref 0, .int v] (I) (J) (RX) (oP (qOp (qOrder v) s)) := by
  refine PC.of [some (.ref 0), some (.int v)] rfl rfl (Nat.le_of_ble_eq_true rfl) ?_
  obtain ⟨n, pc, b, us, kp, rw, tx, rt, hd, sw⟩ := s
  obtain ⟨aM, aE, aN, aT, aU, aK, aH, aG⟩ := id hA
  obtain ⟨aW, -, -⟩ := id hW
  rcases inOf_cases (lo := 1) (hi := 99) (by decide) v (by decide) with ⟨N, h1, h2, rfl, hi⟩ | ⟨hi, ho⟩
  · refine pw_iload_n 1 rfl dX11_order_0 rfl ?_
    refine pw_iconst (v := nI 1) 2 rfl dX11_order_1 rfl ?_
    refine pw_bipush (v := nI 99) 4 rfl dX11_order_2 rfl ?_
    refine pw_callSP (as := [_, _, _]) 7 rfl dX11_order_4 mX11_174 sX11_outside (x_outside (d := d) _ _ _) ⟨rfl, by decide, by decide, show (parseMethodDescriptor yX11_outside.desc).map (fun d => d.parameters.length) = some 3 by decide +kernel⟩ (by omega) (by decide) (Nat.le_of_ble_eq_true rfl) rfl ?_
    refine pw_if_eq (tgt := 14) 10 rfl dX11_order_7 rfl (fun h7 => ?_) (fun h7 => absurd (by rw [out_in h1 h2 (by decide)]; rfl) h7)
    refine pw_aload_n 15 rfl dX11_order_14 rfl ?_
    refine pw_getR 18 rfl dX11_order_15 fX11_52 (by first | rfl | assumption | exact rowS hh | exact mtS hm | exact ruS hr | exact mtA1 hm | exact mtA2 hm | exact mtA3 hm | exact mtA4 hm | exact mtA5 hm | exact mtA6 hm | exact mtA7 hm | exact ruA1 hr | exact ruA2 hr | exact ruA3 hr) rfl (by first | rfl | assumption | exact mtR0 hm | exact mtR1 hm | exact mtR2 hm | exact mtR3 hm | exact mtR4 hm | exact mtR5 hm | exact mtR6 hm | exact ruR0 hr | exact ruR1 hr | exact ruR3 hr) ?_
    refine pw_iload_n 19 rfl dX11_order_18 rfl ?_
    refine pw_callV (as := [_]) 22 rfl dX11_order_19 mX11_245 vX3_downInOrder (x_downInOrder (d := d + 1) aM aW.1 aE h2) (by first | rfl | assumption | exact rowS hh | exact mtS hm | exact ruS hr | exact mtA1 hm | exact mtA2 hm | exact mtA3 hm | exact mtA4 hm | exact mtA5 hm | exact mtA6 hm | exact mtA7 hm | exact ruA1 hr | exact ruA2 hr | exact ruA3 hr) rfl (by decide) ⟨rfl, by decide, by decide, show (parseMethodDescriptor yX3_downInOrder.desc).map (fun d => d.parameters.length) = some 1 by decide +kernel⟩ (by omega) (by decide) (Nat.le_of_ble_eq_true rfl) rfl (fun r19 I19 J19 R19 c19 => ?_)
    obtain ⟨rfl, p1, p2, rfl⟩ := c19
    rotate_left
    refine pw_iret dX11_order_22 rfl ?_
    rotate_left
    exact oQ (by unfold qOrder; rw [hi]; rfl) rfl (XA_rw hA (fW_O p2) p1) rfl
  · have e : qOrder v n pc b (ruE rt) rw hd sw = (-1, rw) := by unfold qOrder; rw [hi]; rfl
    refine pw_iload_n 1 rfl dX11_order_0 rfl ?_
    refine pw_iconst (v := nI 1) 2 rfl dX11_order_1 rfl ?_
    refine pw_bipush (v := nI 99) 4 rfl dX11_order_2 rfl ?_
    refine pw_callSP (as := [_, _, _]) 7 rfl dX11_order_4 mX11_174 sX11_outside (x_outside (d := d) _ _ _) ⟨rfl, by decide, by decide, show (parseMethodDescriptor yX11_outside.desc).map (fun d => d.parameters.length) = some 3 by decide +kernel⟩ (by omega) (by decide) (Nat.le_of_ble_eq_true rfl) rfl ?_
    refine pw_if_eq (tgt := 14) 10 rfl dX11_order_7 rfl (fun h7 => absurd h7 (by rw [outV_y ho]; decide)) (fun h7 => ?_)
    refine pw_iconst (v := -1) 11 rfl dX11_order_10 rfl ?_
    refine pw_goto (tgt := 22) dX11_order_11 rfl ?_
    refine pw_iret dX11_order_22 rfl ?_
    rotate_left
    exact oQ e rfl hA rfl
def qCrowd (v : Int32) : qFn := fun n pc b E rw hd sw => inM (inOf 0 99 v) rw (fun N => (nI (mxA (crd n pc E b) (10 * (N + 1))).1, crw (crd n pc E b) (10 * (N + 1))))
set_option maxRecDepth 100000 in
set_option maxHeartbeats 2000000 in
theorem xo_crowd {d : Nat} {s : aSt} {I : pI} {J : pJ} (hA : XA I J s) (hW : WA s) (v : Int32) : PC SX (d + 8) yX11_crowd cX11_crowd 2 (some .int) [.ref 0, .int v] (I) (J) (RX) (oP (qOp (qCrowd v) s)) := by
  refine PC.of [some (.ref 0), some (.int v)] rfl rfl (Nat.le_of_ble_eq_true rfl) ?_
  obtain ⟨n, pc, b, us, kp, rw, tx, rt, hd, sw⟩ := s
  obtain ⟨aM, aE, aN, aT, aU, aK, aH, aG⟩ := id hA
  obtain ⟨aW, -, -⟩ := id hW
  rcases inOf_cases (lo := 0) (hi := 99) (by decide) v (by decide) with ⟨N, h1, h2, rfl, hi⟩ | ⟨hi, ho⟩
  · refine pw_iload_n 1 rfl dX11_crowd_0 rfl ?_
    refine pw_iconst (v := nI 0) 2 rfl dX11_crowd_1 rfl ?_
    refine pw_bipush (v := nI 99) 4 rfl dX11_crowd_2 rfl ?_
    refine pw_callSP (as := [_, _, _]) 7 rfl dX11_crowd_4 mX11_174 sX11_outside (x_outside (d := d) _ _ _) ⟨rfl, by decide, by decide, show (parseMethodDescriptor yX11_outside.desc).map (fun d => d.parameters.length) = some 3 by decide +kernel⟩ (by omega) (by decide) (Nat.le_of_ble_eq_true rfl) rfl ?_
    refine pw_if_eq (tgt := 14) 10 rfl dX11_crowd_7 rfl (fun h7 => ?_) (fun h7 => absurd (by rw [out_in h1 h2 (by decide)]; rfl) h7)
    refine pw_aload_n 15 rfl dX11_crowd_14 rfl ?_
    refine pw_getR 18 rfl dX11_crowd_15 fX11_52 (by first | rfl | assumption | exact rowS hh | exact mtS hm | exact ruS hr | exact mtA1 hm | exact mtA2 hm | exact mtA3 hm | exact mtA4 hm | exact mtA5 hm | exact mtA6 hm | exact mtA7 hm | exact ruA1 hr | exact ruA2 hr | exact ruA3 hr) rfl (by first | rfl | assumption | exact mtR0 hm | exact mtR1 hm | exact mtR2 hm | exact mtR3 hm | exact mtR4 hm | exact mtR5 hm | exact mtR6 hm | exact ruR0 hr | exact ruR1 hr | exact ruR3 hr) ?_
    refine pw_iload_n 19 rfl dX11_crowd_18 rfl ?_
    refine pw_callV (as := [_]) 22 rfl dX11_crowd_19 mX11_257 vX3_thickest (x_thickest (d := d + 1) aM aW.1 aE h2) (by first | rfl | assumption | exact rowS hh | exact mtS hm | exact ruS hr | exact mtA1 hm | exact mtA2 hm | exact mtA3 hm | exact mtA4 hm | exact mtA5 hm | exact mtA6 hm | exact mtA7 hm | exact ruA1 hr | exact ruA2 hr | exact ruA3 hr) rfl (by decide) ⟨rfl, by decide, by decide, show (parseMethodDescriptor yX3_thickest.desc).map (fun d => d.parameters.length) = some 1 by decide +kernel⟩ (by omega) (by decide) (Nat.le_of_ble_eq_true rfl) rfl (fun r19 I19 J19 R19 c19 => ?_)
    obtain ⟨rfl, p1, p2, rfl⟩ := c19
    rotate_left
    refine pw_iret dX11_crowd_22 rfl ?_
    rotate_left
    exact oQ (by unfold qCrowd; rw [hi]; rfl) rfl (XA_rw hA (fW_O p2) p1) rfl
  · have e : qCrowd v n pc b (ruE rt) rw hd sw = (-1, rw) := by unfold qCrowd; rw [hi]; rfl
    refine pw_iload_n 1 rfl dX11_crowd_0 rfl ?_
    refine pw_iconst (v := nI 0) 2 rfl dX11_crowd_1 rfl ?_
    refine pw_bipush (v := nI 99) 4 rfl dX11_crowd_2 rfl ?_
    refine pw_callSP (as := [_, _, _]) 7 rfl dX11_crowd_4 mX11_174 sX11_outside (x_outside (d := d) _ _ _) ⟨rfl, by decide, by decide, show (parseMethodDescriptor yX11_outside.desc).map (fun d => d.parameters.length) = some 3 by decide +kernel⟩ (by omega) (by decide) (Nat.le_of_ble_eq_true rfl) rfl ?_
    refine pw_if_eq (tgt := 14) 10 rfl dX11_crowd_7 rfl (fun h7 => absurd h7 (by rw [outV_y ho]; decide)) (fun h7 => ?_)
    refine pw_iconst (v := -1) 11 rfl dX11_crowd_10 rfl ?_
    refine pw_goto (tgt := 22) dX11_crowd_11 rfl ?_
    refine pw_iret dX11_crowd_22 rfl ?_
    rotate_left
    exact oQ e rfl hA rfl
def qChanges (v : Int32) : qFn := fun n pc b E rw hd sw => inM (inOf 1 99 v) rw (fun N => (nI (chO (fun t => hrs n pc E t b 29) N), [lI (chL (fun t => hrs n pc E t b 29) N).1, lI (chL (fun t => hrs n pc E t b 29) N).2]))
set_option maxRecDepth 100000 in
set_option maxHeartbeats 2000000 in
theorem xo_changes {d : Nat} {s : aSt} {I : pI} {J : pJ} (hA : XA I J s) (hW : WA s) (v : Int32) : PC SX (d + 8) yX11_changes cX11_changes 2 (some .int) [.ref 0, .int v] (I) (J) (RX) (oP (qOp (qChanges v) s)) := by
  refine PC.of [some (.ref 0), some (.int v)] rfl rfl (Nat.le_of_ble_eq_true rfl) ?_
  obtain ⟨n, pc, b, us, kp, rw, tx, rt, hd, sw⟩ := s
  obtain ⟨aM, aE, aN, aT, aU, aK, aH, aG⟩ := id hA
  obtain ⟨aW, -, -⟩ := id hW
  rcases inOf_cases (lo := 1) (hi := 99) (by decide) v (by decide) with ⟨N, h1, h2, rfl, hi⟩ | ⟨hi, ho⟩
  · refine pw_iload_n 1 rfl dX11_changes_0 rfl ?_
    refine pw_iconst (v := nI 1) 2 rfl dX11_changes_1 rfl ?_
    refine pw_bipush (v := nI 99) 4 rfl dX11_changes_2 rfl ?_
    refine pw_callSP (as := [_, _, _]) 7 rfl dX11_changes_4 mX11_174 sX11_outside (x_outside (d := d) _ _ _) ⟨rfl, by decide, by decide, show (parseMethodDescriptor yX11_outside.desc).map (fun d => d.parameters.length) = some 3 by decide +kernel⟩ (by omega) (by decide) (Nat.le_of_ble_eq_true rfl) rfl ?_
    refine pw_if_eq (tgt := 14) 10 rfl dX11_changes_7 rfl (fun h7 => ?_) (fun h7 => absurd (by rw [out_in h1 h2 (by decide)]; rfl) h7)
    refine pw_aload_n 15 rfl dX11_changes_14 rfl ?_
    refine pw_getR 18 rfl dX11_changes_15 fX11_52 (by first | rfl | assumption | exact rowS hh | exact mtS hm | exact ruS hr | exact mtA1 hm | exact mtA2 hm | exact mtA3 hm | exact mtA4 hm | exact mtA5 hm | exact mtA6 hm | exact mtA7 hm | exact ruA1 hr | exact ruA2 hr | exact ruA3 hr) rfl (by first | rfl | assumption | exact mtR0 hm | exact mtR1 hm | exact mtR2 hm | exact mtR3 hm | exact mtR4 hm | exact mtR5 hm | exact mtR6 hm | exact ruR0 hr | exact ruR1 hr | exact ruR3 hr) ?_
    refine pw_iload_n 19 rfl dX11_changes_18 rfl ?_
    refine pw_callV (as := [_]) 22 rfl dX11_changes_19 mX11_260 vX3_ownersChange (x_ownersChange (d := d + 1) aM aW.1 aE h2) (by first | rfl | assumption | exact rowS hh | exact mtS hm | exact ruS hr | exact mtA1 hm | exact mtA2 hm | exact mtA3 hm | exact mtA4 hm | exact mtA5 hm | exact mtA6 hm | exact mtA7 hm | exact ruA1 hr | exact ruA2 hr | exact ruA3 hr) rfl (by decide) ⟨rfl, by decide, by decide, show (parseMethodDescriptor yX3_ownersChange.desc).map (fun d => d.parameters.length) = some 1 by decide +kernel⟩ (by omega) (by decide) (Nat.le_of_ble_eq_true rfl) rfl (fun r19 I19 J19 R19 c19 => ?_)
    obtain ⟨rfl, p1, p2, rfl⟩ := c19
    rotate_left
    refine pw_iret dX11_changes_22 rfl ?_
    rotate_left
    exact oQ (by unfold qChanges; rw [hi]; rfl) rfl (XA_rw hA (fW_O p2) p1) rfl
  · have e : qChanges v n pc b (ruE rt) rw hd sw = (-1, rw) := by unfold qChanges; rw [hi]; rfl
    refine pw_iload_n 1 rfl dX11_changes_0 rfl ?_
    refine pw_iconst (v := nI 1) 2 rfl dX11_changes_1 rfl ?_
    refine pw_bipush (v := nI 99) 4 rfl dX11_changes_2 rfl ?_
    refine pw_callSP (as := [_, _, _]) 7 rfl dX11_changes_4 mX11_174 sX11_outside (x_outside (d := d) _ _ _) ⟨rfl, by decide, by decide, show (parseMethodDescriptor yX11_outside.desc).map (fun d => d.parameters.length) = some 3 by decide +kernel⟩ (by omega) (by decide) (Nat.le_of_ble_eq_true rfl) rfl ?_
    refine pw_if_eq (tgt := 14) 10 rfl dX11_changes_7 rfl (fun h7 => absurd h7 (by rw [outV_y ho]; decide)) (fun h7 => ?_)
    refine pw_iconst (v := -1) 11 rfl dX11_changes_10 rfl ?_
    refine pw_goto (tgt := 22) dX11_changes_11 rfl ?_
    refine pw_iret dX11_changes_22 rfl ?_
    rotate_left
    exact oQ e rfl hA rfl
def qWays (v : Int32) : qFn := fun n pc b E rw hd sw => inM (inOf 1 99 v) rw (fun N => (nI (sumN (fun q => gon n pc E b q N) n), nseq (fun q => lI (gon n pc E b q N)) n))
set_option maxRecDepth 100000 in
set_option maxHeartbeats 2000000 in
theorem xo_ways {d : Nat} {s : aSt} {I : pI} {J : pJ} (hA : XA I J s) (hW : WA s) (v : Int32) : PC SX (d + 8) yX11_ways cX11_ways 2 (some .int) [.ref 0, .int v] (I) (J) (RX) (oP (qOp (qWays v) s)) := by
  refine PC.of [some (.ref 0), some (.int v)] rfl rfl (Nat.le_of_ble_eq_true rfl) ?_
  obtain ⟨n, pc, b, us, kp, rw, tx, rt, hd, sw⟩ := s
  obtain ⟨aM, aE, aN, aT, aU, aK, aH, aG⟩ := id hA
  obtain ⟨aW, -, -⟩ := id hW
  rcases inOf_cases (lo := 1) (hi := 99) (by decide) v (by decide) with ⟨N, h1, h2, rfl, hi⟩ | ⟨hi, ho⟩
  · refine pw_iload_n 1 rfl dX11_ways_0 rfl ?_
    refine pw_iconst (v := nI 1) 2 rfl dX11_ways_1 rfl ?_
    refine pw_bipush (v := nI 99) 4 rfl dX11_ways_2 rfl ?_
    refine pw_callSP (as := [_, _, _]) 7 rfl dX11_ways_4 mX11_174 sX11_outside (x_outside (d := d) _ _ _) ⟨rfl, by decide, by decide, show (parseMethodDescriptor yX11_outside.desc).map (fun d => d.parameters.length) = some 3 by decide +kernel⟩ (by omega) (by decide) (Nat.le_of_ble_eq_true rfl) rfl ?_
    refine pw_if_eq (tgt := 14) 10 rfl dX11_ways_7 rfl (fun h7 => ?_) (fun h7 => absurd (by rw [out_in h1 h2 (by decide)]; rfl) h7)
    refine pw_aload_n 15 rfl dX11_ways_14 rfl ?_
    refine pw_getR 18 rfl dX11_ways_15 fX11_52 (by first | rfl | assumption | exact rowS hh | exact mtS hm | exact ruS hr | exact mtA1 hm | exact mtA2 hm | exact mtA3 hm | exact mtA4 hm | exact mtA5 hm | exact mtA6 hm | exact mtA7 hm | exact ruA1 hr | exact ruA2 hr | exact ruA3 hr) rfl (by first | rfl | assumption | exact mtR0 hm | exact mtR1 hm | exact mtR2 hm | exact mtR3 hm | exact mtR4 hm | exact mtR5 hm | exact mtR6 hm | exact ruR0 hr | exact ruR1 hr | exact ruR3 hr) ?_
    refine pw_iload_n 19 rfl dX11_ways_18 rfl ?_
    refine pw_callV (as := [_]) 22 rfl dX11_ways_19 mX11_263 vX3_heightsGone (x_heightsGone (d := d + 1) aM aW.1 aE h2) (by first | rfl | assumption | exact rowS hh | exact mtS hm | exact ruS hr | exact mtA1 hm | exact mtA2 hm | exact mtA3 hm | exact mtA4 hm | exact mtA5 hm | exact mtA6 hm | exact mtA7 hm | exact ruA1 hr | exact ruA2 hr | exact ruA3 hr) rfl (by decide) ⟨rfl, by decide, by decide, show (parseMethodDescriptor yX3_heightsGone.desc).map (fun d => d.parameters.length) = some 1 by decide +kernel⟩ (by omega) (by decide) (Nat.le_of_ble_eq_true rfl) rfl (fun r19 I19 J19 R19 c19 => ?_)
    obtain ⟨rfl, p1, p2, rfl⟩ := c19
    rotate_left
    refine pw_iret dX11_ways_22 rfl ?_
    rotate_left
    exact oQ (by unfold qWays; rw [hi]; rfl) rfl (XA_rw hA (fW_O p2) p1) rfl
  · have e : qWays v n pc b (ruE rt) rw hd sw = (-1, rw) := by unfold qWays; rw [hi]; rfl
    refine pw_iload_n 1 rfl dX11_ways_0 rfl ?_
    refine pw_iconst (v := nI 1) 2 rfl dX11_ways_1 rfl ?_
    refine pw_bipush (v := nI 99) 4 rfl dX11_ways_2 rfl ?_
    refine pw_callSP (as := [_, _, _]) 7 rfl dX11_ways_4 mX11_174 sX11_outside (x_outside (d := d) _ _ _) ⟨rfl, by decide, by decide, show (parseMethodDescriptor yX11_outside.desc).map (fun d => d.parameters.length) = some 3 by decide +kernel⟩ (by omega) (by decide) (Nat.le_of_ble_eq_true rfl) rfl ?_
    refine pw_if_eq (tgt := 14) 10 rfl dX11_ways_7 rfl (fun h7 => absurd h7 (by rw [outV_y ho]; decide)) (fun h7 => ?_)
    refine pw_iconst (v := -1) 11 rfl dX11_ways_10 rfl ?_
    refine pw_goto (tgt := 22) dX11_ways_11 rfl ?_
    refine pw_iret dX11_ways_22 rfl ?_
    rotate_left
    exact oQ e rfl hA rfl
def qGoes (v : Int32) : qFn := fun n pc b E rw hd sw => inM (inOf 1 60 v) rw (fun N => (gB (fun i => cntP (fun t => decide (hrs n pc E (t + 1) (bu b (7 + i) 1) 29 = i)) N) (fun i => decide (b (7 + i) = 0)) (-2) n, if cntP (fun i => decide (b (7 + i) = 0)) n = 0 then rw else [(gM (fun i => cntP (fun t => decide (hrs n pc E (t + 1) (bu b (7 + i) 1) 29 = i)) N) (fun i => decide (b (7 + i) = 0)) n).toInt64]))
set_option maxRecDepth 100000 in
set_option maxHeartbeats 2000000 in
theorem xo_goes {d : Nat} {s : aSt} {I : pI} {J : pJ} (hA : XA I J s) (hW : WA s) (v : Int32) : PC SX (d + 8) yX11_goes cX11_goes 2 (some .int) [.ref 0, .int v] (I) (J) (RX) (oP (qOp (qGoes v) s)) := by
  refine PC.of [some (.ref 0), some (.int v)] rfl rfl (Nat.le_of_ble_eq_true rfl) ?_
  obtain ⟨n, pc, b, us, kp, rw, tx, rt, hd, sw⟩ := s
  obtain ⟨aM, aE, aN, aT, aU, aK, aH, aG⟩ := id hA
  obtain ⟨aW, -, -⟩ := id hW
  rcases inOf_cases (lo := 1) (hi := 60) (by decide) v (by decide) with ⟨N, h1, h2, rfl, hi⟩ | ⟨hi, ho⟩
  · refine pw_iload_n 1 rfl dX11_goes_0 rfl ?_
    refine pw_iconst (v := nI 1) 2 rfl dX11_goes_1 rfl ?_
    refine pw_bipush (v := nI 60) 4 rfl dX11_goes_2 rfl ?_
    refine pw_callSP (as := [_, _, _]) 7 rfl dX11_goes_4 mX11_174 sX11_outside (x_outside (d := d) _ _ _) ⟨rfl, by decide, by decide, show (parseMethodDescriptor yX11_outside.desc).map (fun d => d.parameters.length) = some 3 by decide +kernel⟩ (by omega) (by decide) (Nat.le_of_ble_eq_true rfl) rfl ?_
    refine pw_if_eq (tgt := 14) 10 rfl dX11_goes_7 rfl (fun h7 => ?_) (fun h7 => absurd (by rw [out_in h1 h2 (by decide)]; rfl) h7)
    refine pw_aload_n 15 rfl dX11_goes_14 rfl ?_
    refine pw_getR 18 rfl dX11_goes_15 fX11_59 (by first | rfl | assumption | exact rowS hh | exact mtS hm | exact ruS hr | exact mtA1 hm | exact mtA2 hm | exact mtA3 hm | exact mtA4 hm | exact mtA5 hm | exact mtA6 hm | exact mtA7 hm | exact ruA1 hr | exact ruA2 hr | exact ruA3 hr) rfl (by first | rfl | assumption | exact mtR0 hm | exact mtR1 hm | exact mtR2 hm | exact mtR3 hm | exact mtR4 hm | exact mtR5 hm | exact mtR6 hm | exact ruR0 hr | exact ruR1 hr | exact ruR3 hr) ?_
    refine pw_iload_n 19 rfl dX11_goes_18 rfl ?_
    refine pw_callV (as := [_]) 22 rfl dX11_goes_19 mX11_275 vX5_bestToSetOut (x_bestToSetOut (d := d) aM aW aE h2 aN) (by first | rfl | assumption | exact rowS hh | exact mtS hm | exact ruS hr | exact mtA1 hm | exact mtA2 hm | exact mtA3 hm | exact mtA4 hm | exact mtA5 hm | exact mtA6 hm | exact mtA7 hm | exact ruA1 hr | exact ruA2 hr | exact ruA3 hr) rfl (by decide) ⟨rfl, by decide, by decide, show (parseMethodDescriptor yX5_bestToSetOut.desc).map (fun d => d.parameters.length) = some 1 by decide +kernel⟩ (by omega) (by decide) (Nat.le_of_ble_eq_true rfl) rfl (fun r19 I19 J19 R19 c19 => ?_)
    obtain ⟨rfl, p1, p2, rfl⟩ := c19
    rotate_left
    refine pw_iret dX11_goes_22 rfl ?_
    rotate_left
    exact oQ (by unfold qGoes; rw [hi]; rfl) rfl (XA_rw hA (fW_P p2) p1) rfl
  · have e : qGoes v n pc b (ruE rt) rw hd sw = (-1, rw) := by unfold qGoes; rw [hi]; rfl
    refine pw_iload_n 1 rfl dX11_goes_0 rfl ?_
    refine pw_iconst (v := nI 1) 2 rfl dX11_goes_1 rfl ?_
    refine pw_bipush (v := nI 60) 4 rfl dX11_goes_2 rfl ?_
    refine pw_callSP (as := [_, _, _]) 7 rfl dX11_goes_4 mX11_174 sX11_outside (x_outside (d := d) _ _ _) ⟨rfl, by decide, by decide, show (parseMethodDescriptor yX11_outside.desc).map (fun d => d.parameters.length) = some 3 by decide +kernel⟩ (by omega) (by decide) (Nat.le_of_ble_eq_true rfl) rfl ?_
    refine pw_if_eq (tgt := 14) 10 rfl dX11_goes_7 rfl (fun h7 => absurd h7 (by rw [outV_y ho]; decide)) (fun h7 => ?_)
    refine pw_iconst (v := -1) 11 rfl dX11_goes_10 rfl ?_
    refine pw_goto (tgt := 22) dX11_goes_11 rfl ?_
    refine pw_iret dX11_goes_22 rfl ?_
    rotate_left
    exact oQ e rfl hA rfl
def qLawyers (v : Int32) : qFn := fun n pc b E rw hd sw => inM (inOf 0 9 v) rw (fun N => (nI (fewC (few (lwQ n b N) (2 ^ (b 28 + 1)))), [lI (fewB (few (lwQ n b N) (2 ^ (b 28 + 1))))]))
set_option maxRecDepth 100000 in
set_option maxHeartbeats 2000000 in
theorem xo_lawyers {d : Nat} {s : aSt} {I : pI} {J : pJ} (hA : XA I J s) (hW : WA s) (v : Int32) : PC SX (d + 8) yX11_lawyers cX11_lawyers 2 (some .int) [.ref 0, .int v] (I) (J) (RX) (oP (qOp (qLawyers v) s)) := by
  refine PC.of [some (.ref 0), some (.int v)] rfl rfl (Nat.le_of_ble_eq_true rfl) ?_
  obtain ⟨n, pc, b, us, kp, rw, tx, rt, hd, sw⟩ := s
  obtain ⟨aM, aE, aN, aT, aU, aK, aH, aG⟩ := id hA
  obtain ⟨aW, -, -⟩ := id hW
  rcases inOf_cases (lo := 0) (hi := 9) (by decide) v (by decide) with ⟨N, h1, h2, rfl, hi⟩ | ⟨hi, ho⟩
  · refine pw_iload_n 1 rfl dX11_lawyers_0 rfl ?_
    refine pw_iconst (v := nI 0) 2 rfl dX11_lawyers_1 rfl ?_
    refine pw_bipush (v := nI 9) 4 rfl dX11_lawyers_2 rfl ?_
    refine pw_callSP (as := [_, _, _]) 7 rfl dX11_lawyers_4 mX11_174 sX11_outside (x_outside (d := d) _ _ _) ⟨rfl, by decide, by decide, show (parseMethodDescriptor yX11_outside.desc).map (fun d => d.parameters.length) = some 3 by decide +kernel⟩ (by omega) (by decide) (Nat.le_of_ble_eq_true rfl) rfl ?_
    refine pw_if_eq (tgt := 14) 10 rfl dX11_lawyers_7 rfl (fun h7 => ?_) (fun h7 => absurd (by rw [out_in h1 h2 (by decide)]; rfl) h7)
    refine pw_aload_n 15 rfl dX11_lawyers_14 rfl ?_
    refine pw_getR 18 rfl dX11_lawyers_15 fX11_68 (by first | rfl | assumption | exact rowS hh | exact mtS hm | exact ruS hr | exact mtA1 hm | exact mtA2 hm | exact mtA3 hm | exact mtA4 hm | exact mtA5 hm | exact mtA6 hm | exact mtA7 hm | exact ruA1 hr | exact ruA2 hr | exact ruA3 hr) rfl (by first | rfl | assumption | exact mtR0 hm | exact mtR1 hm | exact mtR2 hm | exact mtR3 hm | exact mtR4 hm | exact mtR5 hm | exact mtR6 hm | exact ruR0 hr | exact ruR1 hr | exact ruR3 hr) ?_
    refine pw_iload_n 19 rfl dX11_lawyers_18 rfl ?_
    refine pw_callV (as := [_]) 22 rfl dX11_lawyers_19 mX11_281 vX9_fewestLawyers (x_fewestLawyers (d := d + 5) aM aW.1 h2) (by first | rfl | assumption | exact rowS hh | exact mtS hm | exact ruS hr | exact mtA1 hm | exact mtA2 hm | exact mtA3 hm | exact mtA4 hm | exact mtA5 hm | exact mtA6 hm | exact mtA7 hm | exact ruA1 hr | exact ruA2 hr | exact ruA3 hr) rfl (by decide) ⟨rfl, by decide, by decide, show (parseMethodDescriptor yX9_fewestLawyers.desc).map (fun d => d.parameters.length) = some 1 by decide +kernel⟩ (by omega) (by decide) (Nat.le_of_ble_eq_true rfl) rfl (fun r19 I19 J19 R19 c19 => ?_)
    obtain ⟨rfl, p1, p2, rfl⟩ := c19
    rotate_left
    refine pw_iret dX11_lawyers_22 rfl ?_
    rotate_left
    exact oQ (by unfold qLawyers; rw [hi]; rfl) rfl (XA_rw hA (fW_S p2) p1) rfl
  · have e : qLawyers v n pc b (ruE rt) rw hd sw = (-1, rw) := by unfold qLawyers; rw [hi]; rfl
    refine pw_iload_n 1 rfl dX11_lawyers_0 rfl ?_
    refine pw_iconst (v := nI 0) 2 rfl dX11_lawyers_1 rfl ?_
    refine pw_bipush (v := nI 9) 4 rfl dX11_lawyers_2 rfl ?_
    refine pw_callSP (as := [_, _, _]) 7 rfl dX11_lawyers_4 mX11_174 sX11_outside (x_outside (d := d) _ _ _) ⟨rfl, by decide, by decide, show (parseMethodDescriptor yX11_outside.desc).map (fun d => d.parameters.length) = some 3 by decide +kernel⟩ (by omega) (by decide) (Nat.le_of_ble_eq_true rfl) rfl ?_
    refine pw_if_eq (tgt := 14) 10 rfl dX11_lawyers_7 rfl (fun h7 => absurd h7 (by rw [outV_y ho]; decide)) (fun h7 => ?_)
    refine pw_iconst (v := -1) 11 rfl dX11_lawyers_10 rfl ?_
    refine pw_goto (tgt := 22) dX11_lawyers_11 rfl ?_
    refine pw_iret dX11_lawyers_22 rfl ?_
    rotate_left
    exact oQ e rfl hA rfl
def qStones (v : Int32) : qFn := fun n pc b E rw hd sw => inM (inOf 0 999 v) rw (fun N => (fewI (few (fun s => decide (sumS (fun q => b (21 + q)) s n = N)) (2 ^ n)), if cntP (fun s => decide (sumS (fun q => b (21 + q)) s n = N)) (2 ^ n) = 0 then rw else [lI (fewB (few (fun s => decide (sumS (fun q => b (21 + q)) s n = N)) (2 ^ n))), lI (cntP (fun s => decide (sumS (fun q => b (21 + q)) s n = N)) (2 ^ n))]))
set_option maxRecDepth 100000 in
set_option maxHeartbeats 2000000 in
theorem xo_stones {d : Nat} {s : aSt} {I : pI} {J : pJ} (hA : XA I J s) (hW : WA s) (v : Int32) : PC SX (d + 8) yX11_stones cX11_stones 2 (some .int) [.ref 0, .int v] (I) (J) (RX) (oP (qOp (qStones v) s)) := by
  refine PC.of [some (.ref 0), some (.int v)] rfl rfl (Nat.le_of_ble_eq_true rfl) ?_
  obtain ⟨n, pc, b, us, kp, rw, tx, rt, hd, sw⟩ := s
  obtain ⟨aM, aE, aN, aT, aU, aK, aH, aG⟩ := id hA
  obtain ⟨aW, -, -⟩ := id hW
  rcases inOf_cases (lo := 0) (hi := 999) (by decide) v (by decide) with ⟨N, h1, h2, rfl, hi⟩ | ⟨hi, ho⟩
  · refine pw_iload_n 1 rfl dX11_stones_0 rfl ?_
    refine pw_iconst (v := nI 0) 2 rfl dX11_stones_1 rfl ?_
    refine pw_sipush (v := nI 999) 5 rfl dX11_stones_2 rfl ?_
    refine pw_callSP (as := [_, _, _]) 8 rfl dX11_stones_5 mX11_174 sX11_outside (x_outside (d := d) _ _ _) ⟨rfl, by decide, by decide, show (parseMethodDescriptor yX11_outside.desc).map (fun d => d.parameters.length) = some 3 by decide +kernel⟩ (by omega) (by decide) (Nat.le_of_ble_eq_true rfl) rfl ?_
    refine pw_if_eq (tgt := 15) 11 rfl dX11_stones_8 rfl (fun h8 => ?_) (fun h8 => absurd (by rw [out_in h1 h2 (by decide)]; rfl) h8)
    refine pw_aload_n 16 rfl dX11_stones_15 rfl ?_
    refine pw_getR 19 rfl dX11_stones_16 fX11_68 (by first | rfl | assumption | exact rowS hh | exact mtS hm | exact ruS hr | exact mtA1 hm | exact mtA2 hm | exact mtA3 hm | exact mtA4 hm | exact mtA5 hm | exact mtA6 hm | exact mtA7 hm | exact ruA1 hr | exact ruA2 hr | exact ruA3 hr) rfl (by first | rfl | assumption | exact mtR0 hm | exact mtR1 hm | exact mtR2 hm | exact mtR3 hm | exact mtR4 hm | exact mtR5 hm | exact mtR6 hm | exact ruR0 hr | exact ruR1 hr | exact ruR3 hr) ?_
    refine pw_iload_n 20 rfl dX11_stones_19 rfl ?_
    refine pw_callV (as := [_]) 23 rfl dX11_stones_20 mX11_293 vX9_justStones (x_justStones (d := d + 4) aM aW.1 h2 aN) (by first | rfl | assumption | exact rowS hh | exact mtS hm | exact ruS hr | exact mtA1 hm | exact mtA2 hm | exact mtA3 hm | exact mtA4 hm | exact mtA5 hm | exact mtA6 hm | exact mtA7 hm | exact ruA1 hr | exact ruA2 hr | exact ruA3 hr) rfl (by decide) ⟨rfl, by decide, by decide, show (parseMethodDescriptor yX9_justStones.desc).map (fun d => d.parameters.length) = some 1 by decide +kernel⟩ (by omega) (by decide) (Nat.le_of_ble_eq_true rfl) rfl (fun r20 I20 J20 R20 c20 => ?_)
    obtain ⟨rfl, p1, p2, rfl⟩ := c20
    rotate_left
    refine pw_iret dX11_stones_23 rfl ?_
    rotate_left
    exact oQ (by unfold qStones; rw [hi]; rfl) rfl (XA_rw hA (fW_S p2) p1) rfl
  · have e : qStones v n pc b (ruE rt) rw hd sw = (-1, rw) := by unfold qStones; rw [hi]; rfl
    refine pw_iload_n 1 rfl dX11_stones_0 rfl ?_
    refine pw_iconst (v := nI 0) 2 rfl dX11_stones_1 rfl ?_
    refine pw_sipush (v := nI 999) 5 rfl dX11_stones_2 rfl ?_
    refine pw_callSP (as := [_, _, _]) 8 rfl dX11_stones_5 mX11_174 sX11_outside (x_outside (d := d) _ _ _) ⟨rfl, by decide, by decide, show (parseMethodDescriptor yX11_outside.desc).map (fun d => d.parameters.length) = some 3 by decide +kernel⟩ (by omega) (by decide) (Nat.le_of_ble_eq_true rfl) rfl ?_
    refine pw_if_eq (tgt := 15) 11 rfl dX11_stones_8 rfl (fun h8 => absurd h8 (by rw [outV_y ho]; decide)) (fun h8 => ?_)
    refine pw_iconst (v := -1) 12 rfl dX11_stones_11 rfl ?_
    refine pw_goto (tgt := 23) dX11_stones_12 rfl ?_
    refine pw_iret dX11_stones_23 rfl ?_
    rotate_left
    exact oQ e rfl hA rfl
def qRests (v : Int32) : qFn := fun n pc b E rw hd sw => inM (inOf 0 20 v) rw (fun N => (nI (cntP (rsP N) 100), rsO (fstL (rsP N) 100)))
set_option maxRecDepth 100000 in
set_option maxHeartbeats 2000000 in
theorem xo_rests {d : Nat} {s : aSt} {I : pI} {J : pJ} (hA : XA I J s) (hW : WA s) (v : Int32) : PC SX (d + 8) yX11_rests cX11_rests 2 (some .int) [.ref 0, .int v] (I) (J) (RX) (oP (qOp (qRests v) s)) := by
  refine PC.of [some (.ref 0), some (.int v)] rfl rfl (Nat.le_of_ble_eq_true rfl) ?_
  obtain ⟨n, pc, b, us, kp, rw, tx, rt, hd, sw⟩ := s
  obtain ⟨aM, aE, aN, aT, aU, aK, aH, aG⟩ := id hA
  obtain ⟨aW, -, -⟩ := id hW
  rcases inOf_cases (lo := 0) (hi := 20) (by decide) v (by decide) with ⟨N, h1, h2, rfl, hi⟩ | ⟨hi, ho⟩
  · refine pw_iload_n 1 rfl dX11_rests_0 rfl ?_
    refine pw_iconst (v := nI 0) 2 rfl dX11_rests_1 rfl ?_
    refine pw_bipush (v := nI 20) 4 rfl dX11_rests_2 rfl ?_
    refine pw_callSP (as := [_, _, _]) 7 rfl dX11_rests_4 mX11_174 sX11_outside (x_outside (d := d) _ _ _) ⟨rfl, by decide, by decide, show (parseMethodDescriptor yX11_outside.desc).map (fun d => d.parameters.length) = some 3 by decide +kernel⟩ (by omega) (by decide) (Nat.le_of_ble_eq_true rfl) rfl ?_
    refine pw_if_eq (tgt := 14) 10 rfl dX11_rests_7 rfl (fun h7 => ?_) (fun h7 => absurd (by rw [out_in h1 h2 (by decide)]; rfl) h7)
    refine pw_aload_n 15 rfl dX11_rests_14 rfl ?_
    refine pw_getR 18 rfl dX11_rests_15 fX11_91 (by first | rfl | assumption | exact rowS hh | exact mtS hm | exact ruS hr | exact mtA1 hm | exact mtA2 hm | exact mtA3 hm | exact mtA4 hm | exact mtA5 hm | exact mtA6 hm | exact mtA7 hm | exact ruA1 hr | exact ruA2 hr | exact ruA3 hr) rfl (by first | rfl | assumption | exact mtR0 hm | exact mtR1 hm | exact mtR2 hm | exact mtR3 hm | exact mtR4 hm | exact mtR5 hm | exact mtR6 hm | exact ruR0 hr | exact ruR1 hr | exact ruR3 hr) ?_
    refine pw_iload_n 19 rfl dX11_rests_18 rfl ?_
    refine pw_callV (as := [_]) 22 rfl dX11_rests_19 mX11_331 vX0_restingPairs (x_restingPairs (d := d + 4) (v := N)) (by first | rfl | assumption | exact rowS hh | exact mtS hm | exact ruS hr | exact mtA1 hm | exact mtA2 hm | exact mtA3 hm | exact mtA4 hm | exact mtA5 hm | exact mtA6 hm | exact mtA7 hm | exact ruA1 hr | exact ruA2 hr | exact ruA3 hr) rfl (by decide) ⟨rfl, by decide, by decide, show (parseMethodDescriptor yX0_restingPairs.desc).map (fun d => d.parameters.length) = some 1 by decide +kernel⟩ (by omega) (by decide) (Nat.le_of_ble_eq_true rfl) rfl (fun r19 I19 J19 R19 c19 => ?_)
    obtain ⟨rfl, p1, p2, rfl⟩ := c19
    rotate_left
    refine pw_iret dX11_rests_22 rfl ?_
    rotate_left
    exact oQ (by unfold qRests; rw [hi]; rfl) rfl (XA_rw hA (fW_19 p2) p1) rfl
  · have e : qRests v n pc b (ruE rt) rw hd sw = (-1, rw) := by unfold qRests; rw [hi]; rfl
    refine pw_iload_n 1 rfl dX11_rests_0 rfl ?_
    refine pw_iconst (v := nI 0) 2 rfl dX11_rests_1 rfl ?_
    refine pw_bipush (v := nI 20) 4 rfl dX11_rests_2 rfl ?_
    refine pw_callSP (as := [_, _, _]) 7 rfl dX11_rests_4 mX11_174 sX11_outside (x_outside (d := d) _ _ _) ⟨rfl, by decide, by decide, show (parseMethodDescriptor yX11_outside.desc).map (fun d => d.parameters.length) = some 3 by decide +kernel⟩ (by omega) (by decide) (Nat.le_of_ble_eq_true rfl) rfl ?_
    refine pw_if_eq (tgt := 14) 10 rfl dX11_rests_7 rfl (fun h7 => absurd h7 (by rw [outV_y ho]; decide)) (fun h7 => ?_)
    refine pw_iconst (v := -1) 11 rfl dX11_rests_10 rfl ?_
    refine pw_goto (tgt := 22) dX11_rests_11 rfl ?_
    refine pw_iret dX11_rests_22 rfl ?_
    rotate_left
    exact oQ e rfl hA rfl
def qWhen (w : Int32) : qFn := fun n pc b E rw hd sw => inM (qOf n w) rw (fun q => (fstP (fun k => decide (hrs n pc E k b 29 = q)) id 100, if cntP (fun k => decide (hrs n pc E k b 29 = q)) 100 = 0 then rw else [lI (cntP (fun k => decide (hrs n pc E k b 29 = q)) 100)]))
set_option maxRecDepth 100000 in
set_option maxHeartbeats 2000000 in
theorem xo_when {d : Nat} {s : aSt} {I : pI} {J : pJ} (hA : XA I J s) (hW : WA s) (w : Int32) : PC SX (d + 8) yX11_when cX11_when 2 (some .int) [.ref 0, .int w] (I) (J) (RX) (oP (qOp (qWhen w) s)) := by
  refine PC.of [some (.ref 0), some (.int w)] rfl rfl (Nat.le_of_ble_eq_true rfl) ?_
  obtain ⟨n, pc, b, us, kp, rw, tx, rt, hd, sw⟩ := s
  obtain ⟨aM, aE, aN, aT, aU, aK, aH, aG⟩ := id hA
  obtain ⟨aW, -, -⟩ := id hW
  have hn7 := aM.1
  rcases qOf_cases hn7 w with ⟨q, hq, rfl, hi, hh⟩ | ⟨hi, hh⟩
  · refine pw_aload_n 1 rfl dX11_when_0 rfl ?_
    refine pw_getR 4 rfl dX11_when_1 fX11_10 (by first | rfl | assumption | exact rowS hh | exact mtS hm | exact ruS hr | exact mtA1 hm | exact mtA2 hm | exact mtA3 hm | exact mtA4 hm | exact mtA5 hm | exact mtA6 hm | exact mtA7 hm | exact ruA1 hr | exact ruA2 hr | exact ruA3 hr) rfl (by first | rfl | assumption | exact mtR0 hm | exact mtR1 hm | exact mtR2 hm | exact mtR3 hm | exact mtR4 hm | exact mtR5 hm | exact mtR6 hm | exact ruR0 hr | exact ruR1 hr | exact ruR3 hr) ?_
    refine pw_iload_n 5 rfl dX11_when_4 rfl ?_
    refine pw_callVP (as := [_]) 8 rfl dX11_when_5 mX11_142 vX1_has (x_has (d := d + 7) (Or.inl rfl) aM.2.1 hn7 _) (by first | rfl | assumption | exact rowS hh | exact mtS hm | exact ruS hr | exact mtA1 hm | exact mtA2 hm | exact mtA3 hm | exact mtA4 hm | exact mtA5 hm | exact mtA6 hm | exact mtA7 hm | exact ruA1 hr | exact ruA2 hr | exact ruA3 hr) rfl (by decide) ⟨rfl, by decide, by decide, show (parseMethodDescriptor yX1_has.desc).map (fun d => d.parameters.length) = some 1 by decide +kernel⟩ (by omega) (by decide) (Nat.le_of_ble_eq_true rfl) rfl ?_
    refine pw_if_eq (tgt := 22) 11 rfl dX11_when_8 rfl (fun h8 => absurd h8 (by rw [hh]; decide)) (fun h8 => ?_)
    refine pw_aload_n 12 rfl dX11_when_11 rfl ?_
    refine pw_getR 15 rfl dX11_when_12 fX11_52 (by first | rfl | assumption | exact rowS hh | exact mtS hm | exact ruS hr | exact mtA1 hm | exact mtA2 hm | exact mtA3 hm | exact mtA4 hm | exact mtA5 hm | exact mtA6 hm | exact mtA7 hm | exact ruA1 hr | exact ruA2 hr | exact ruA3 hr) rfl (by first | rfl | assumption | exact mtR0 hm | exact mtR1 hm | exact mtR2 hm | exact mtR3 hm | exact mtR4 hm | exact mtR5 hm | exact mtR6 hm | exact ruR0 hr | exact ruR1 hr | exact ruR3 hr) ?_
    refine pw_iload_n 16 rfl dX11_when_15 rfl ?_
    refine pw_callV (as := [_]) 19 rfl dX11_when_16 mX11_239 vX3_firstOwned (x_firstOwned (d := d + 1) aM aW.1 aE (show q < 7 by omega) aN) (by first | rfl | assumption | exact rowS hh | exact mtS hm | exact ruS hr | exact mtA1 hm | exact mtA2 hm | exact mtA3 hm | exact mtA4 hm | exact mtA5 hm | exact mtA6 hm | exact mtA7 hm | exact ruA1 hr | exact ruA2 hr | exact ruA3 hr) rfl (by decide) ⟨rfl, by decide, by decide, show (parseMethodDescriptor yX3_firstOwned.desc).map (fun d => d.parameters.length) = some 1 by decide +kernel⟩ (by omega) (by decide) (Nat.le_of_ble_eq_true rfl) rfl (fun r16 I16 J16 R16 c16 => ?_)
    obtain ⟨rfl, p1, p2, rfl⟩ := c16
    refine pw_goto (tgt := 23) dX11_when_19 rfl ?_
    rotate_left
    refine pw_iret dX11_when_23 rfl ?_
    rotate_left
    exact oQ (by unfold qWhen; rw [hi]; rfl) rfl (XA_rw hA (fW_O p2) p1) rfl
  · have e : qWhen w n pc b (ruE rt) rw hd sw = (-1, rw) := by unfold qWhen; rw [hi]; rfl
    refine pw_aload_n 1 rfl dX11_when_0 rfl ?_
    refine pw_getR 4 rfl dX11_when_1 fX11_10 (by first | rfl | assumption | exact rowS hh | exact mtS hm | exact ruS hr | exact mtA1 hm | exact mtA2 hm | exact mtA3 hm | exact mtA4 hm | exact mtA5 hm | exact mtA6 hm | exact mtA7 hm | exact ruA1 hr | exact ruA2 hr | exact ruA3 hr) rfl (by first | rfl | assumption | exact mtR0 hm | exact mtR1 hm | exact mtR2 hm | exact mtR3 hm | exact mtR4 hm | exact mtR5 hm | exact mtR6 hm | exact ruR0 hr | exact ruR1 hr | exact ruR3 hr) ?_
    refine pw_iload_n 5 rfl dX11_when_4 rfl ?_
    refine pw_callVP (as := [_]) 8 rfl dX11_when_5 mX11_142 vX1_has (x_has (d := d + 7) (Or.inl rfl) aM.2.1 hn7 _) (by first | rfl | assumption | exact rowS hh | exact mtS hm | exact ruS hr | exact mtA1 hm | exact mtA2 hm | exact mtA3 hm | exact mtA4 hm | exact mtA5 hm | exact mtA6 hm | exact mtA7 hm | exact ruA1 hr | exact ruA2 hr | exact ruA3 hr) rfl (by decide) ⟨rfl, by decide, by decide, show (parseMethodDescriptor yX1_has.desc).map (fun d => d.parameters.length) = some 1 by decide +kernel⟩ (by omega) (by decide) (Nat.le_of_ble_eq_true rfl) rfl ?_
    refine pw_if_eq (tgt := 22) 11 rfl dX11_when_8 rfl (fun h8 => ?_) (fun h8 => absurd (by rw [hh]; rfl) h8)
    refine pw_iconst (v := -1) 23 rfl dX11_when_22 rfl ?_
    refine pw_iret dX11_when_23 rfl ?_
    rotate_left
    exact oQ e rfl hA rfl
def qComes (w : Int32) : qFn := fun n pc b E rw hd sw => inM (qOf n w) rw (fun q => (fstP (fun k => (dnb n pc E (hrs n pc E k b)).testBit q) (fun k => k + 1) 99, if cntP (fun k => (dnb n pc E (hrs n pc E k b)).testBit q) 99 = 0 then rw else [lI (cntP (fun k => (dnb n pc E (hrs n pc E k b)).testBit q) 99)]))
set_option maxRecDepth 100000 in
set_option maxHeartbeats 2000000 in
theorem xo_comes {d : Nat} {s : aSt} {I : pI} {J : pJ} (hA : XA I J s) (hW : WA s) (w : Int32) : PC SX (d + 8) yX11_comes cX11_comes 2 (some .int) [.ref 0, .int w] (I) (J) (RX) (oP (qOp (qComes w) s)) := by
  refine PC.of [some (.ref 0), some (.int w)] rfl rfl (Nat.le_of_ble_eq_true rfl) ?_
  obtain ⟨n, pc, b, us, kp, rw, tx, rt, hd, sw⟩ := s
  obtain ⟨aM, aE, aN, aT, aU, aK, aH, aG⟩ := id hA
  obtain ⟨aW, -, -⟩ := id hW
  have hn7 := aM.1
  rcases qOf_cases hn7 w with ⟨q, hq, rfl, hi, hh⟩ | ⟨hi, hh⟩
  · refine pw_aload_n 1 rfl dX11_comes_0 rfl ?_
    refine pw_getR 4 rfl dX11_comes_1 fX11_10 (by first | rfl | assumption | exact rowS hh | exact mtS hm | exact ruS hr | exact mtA1 hm | exact mtA2 hm | exact mtA3 hm | exact mtA4 hm | exact mtA5 hm | exact mtA6 hm | exact mtA7 hm | exact ruA1 hr | exact ruA2 hr | exact ruA3 hr) rfl (by first | rfl | assumption | exact mtR0 hm | exact mtR1 hm | exact mtR2 hm | exact mtR3 hm | exact mtR4 hm | exact mtR5 hm | exact mtR6 hm | exact ruR0 hr | exact ruR1 hr | exact ruR3 hr) ?_
    refine pw_iload_n 5 rfl dX11_comes_4 rfl ?_
    refine pw_callVP (as := [_]) 8 rfl dX11_comes_5 mX11_142 vX1_has (x_has (d := d + 7) (Or.inl rfl) aM.2.1 hn7 _) (by first | rfl | assumption | exact rowS hh | exact mtS hm | exact ruS hr | exact mtA1 hm | exact mtA2 hm | exact mtA3 hm | exact mtA4 hm | exact mtA5 hm | exact mtA6 hm | exact mtA7 hm | exact ruA1 hr | exact ruA2 hr | exact ruA3 hr) rfl (by decide) ⟨rfl, by decide, by decide, show (parseMethodDescriptor yX1_has.desc).map (fun d => d.parameters.length) = some 1 by decide +kernel⟩ (by omega) (by decide) (Nat.le_of_ble_eq_true rfl) rfl ?_
    refine pw_if_eq (tgt := 22) 11 rfl dX11_comes_8 rfl (fun h8 => absurd h8 (by rw [hh]; decide)) (fun h8 => ?_)
    refine pw_aload_n 12 rfl dX11_comes_11 rfl ?_
    refine pw_getR 15 rfl dX11_comes_12 fX11_52 (by first | rfl | assumption | exact rowS hh | exact mtS hm | exact ruS hr | exact mtA1 hm | exact mtA2 hm | exact mtA3 hm | exact mtA4 hm | exact mtA5 hm | exact mtA6 hm | exact mtA7 hm | exact ruA1 hr | exact ruA2 hr | exact ruA3 hr) rfl (by first | rfl | assumption | exact mtR0 hm | exact mtR1 hm | exact mtR2 hm | exact mtR3 hm | exact mtR4 hm | exact mtR5 hm | exact mtR6 hm | exact ruR0 hr | exact ruR1 hr | exact ruR3 hr) ?_
    refine pw_iload_n 16 rfl dX11_comes_15 rfl ?_
    refine pw_callV (as := [_]) 19 rfl dX11_comes_16 mX11_254 vX3_firstDown (x_firstDown (d := d + 1) aM aW.1 aE (show q < 7 by omega) aN) (by first | rfl | assumption | exact rowS hh | exact mtS hm | exact ruS hr | exact mtA1 hm | exact mtA2 hm | exact mtA3 hm | exact mtA4 hm | exact mtA5 hm | exact mtA6 hm | exact mtA7 hm | exact ruA1 hr | exact ruA2 hr | exact ruA3 hr) rfl (by decide) ⟨rfl, by decide, by decide, show (parseMethodDescriptor yX3_firstDown.desc).map (fun d => d.parameters.length) = some 1 by decide +kernel⟩ (by omega) (by decide) (Nat.le_of_ble_eq_true rfl) rfl (fun r16 I16 J16 R16 c16 => ?_)
    obtain ⟨rfl, p1, p2, rfl⟩ := c16
    refine pw_goto (tgt := 23) dX11_comes_19 rfl ?_
    rotate_left
    refine pw_iret dX11_comes_23 rfl ?_
    rotate_left
    exact oQ (by unfold qComes; rw [hi]; rfl) rfl (XA_rw hA (fW_O p2) p1) rfl
  · have e : qComes w n pc b (ruE rt) rw hd sw = (-1, rw) := by unfold qComes; rw [hi]; rfl
    refine pw_aload_n 1 rfl dX11_comes_0 rfl ?_
    refine pw_getR 4 rfl dX11_comes_1 fX11_10 (by first | rfl | assumption | exact rowS hh | exact mtS hm | exact ruS hr | exact mtA1 hm | exact mtA2 hm | exact mtA3 hm | exact mtA4 hm | exact mtA5 hm | exact mtA6 hm | exact mtA7 hm | exact ruA1 hr | exact ruA2 hr | exact ruA3 hr) rfl (by first | rfl | assumption | exact mtR0 hm | exact mtR1 hm | exact mtR2 hm | exact mtR3 hm | exact mtR4 hm | exact mtR5 hm | exact mtR6 hm | exact ruR0 hr | exact ruR1 hr | exact ruR3 hr) ?_
    refine pw_iload_n 5 rfl dX11_comes_4 rfl ?_
    refine pw_callVP (as := [_]) 8 rfl dX11_comes_5 mX11_142 vX1_has (x_has (d := d + 7) (Or.inl rfl) aM.2.1 hn7 _) (by first | rfl | assumption | exact rowS hh | exact mtS hm | exact ruS hr | exact mtA1 hm | exact mtA2 hm | exact mtA3 hm | exact mtA4 hm | exact mtA5 hm | exact mtA6 hm | exact mtA7 hm | exact ruA1 hr | exact ruA2 hr | exact ruA3 hr) rfl (by decide) ⟨rfl, by decide, by decide, show (parseMethodDescriptor yX1_has.desc).map (fun d => d.parameters.length) = some 1 by decide +kernel⟩ (by omega) (by decide) (Nat.le_of_ble_eq_true rfl) rfl ?_
    refine pw_if_eq (tgt := 22) 11 rfl dX11_comes_8 rfl (fun h8 => ?_) (fun h8 => absurd (by rw [hh]; rfl) h8)
    refine pw_iconst (v := -1) 23 rfl dX11_comes_22 rfl ?_
    refine pw_iret dX11_comes_23 rfl ?_
    rotate_left
    exact oQ e rfl hA rfl
def qHigh (w v : Int32) : qFn := fun n pc b E rw hd sw => inM (qOf n w) rw (fun q => inM (inOf 0 99 v) rw (fun N => (nI (hrs n pc E N b q), [lI (hrs n pc E N b (7 + q)), lI (hrs n pc E N b (21 + q))])))
set_option maxRecDepth 100000 in
set_option maxHeartbeats 2000000 in
theorem xo_high {d : Nat} {s : aSt} {I : pI} {J : pJ} (hA : XA I J s) (hW : WA s) (w v : Int32) : PC SX (d + 8) yX11_high cX11_high 3 (some .int) [.ref 0, .int w, .int v] (I) (J) (RX) (oP (qOp (qHigh w v) s)) := by
  refine PC.of [some (.ref 0), some (.int w), some (.int v)] rfl rfl (Nat.le_of_ble_eq_true rfl) ?_
  obtain ⟨n, pc, b, us, kp, rw, tx, rt, hd, sw⟩ := s
  obtain ⟨aM, aE, aN, aT, aU, aK, aH, aG⟩ := id hA
  obtain ⟨aW, -, -⟩ := id hW
  have hn7 := aM.1
  rcases qOf_cases hn7 w with ⟨q, hq, rfl, hi, hh⟩ | ⟨hi, hh⟩
  · rcases inOf_cases (lo := 0) (hi := 99) (by decide) v (by decide) with ⟨N, h1, h2, rfl, hj⟩ | ⟨hj, ho⟩
    · refine pw_aload_n 1 rfl dX11_high_0 rfl ?_
      refine pw_getR 4 rfl dX11_high_1 fX11_10 (by first | rfl | assumption | exact rowS hh | exact mtS hm | exact ruS hr | exact mtA1 hm | exact mtA2 hm | exact mtA3 hm | exact mtA4 hm | exact mtA5 hm | exact mtA6 hm | exact mtA7 hm | exact ruA1 hr | exact ruA2 hr | exact ruA3 hr) rfl (by first | rfl | assumption | exact mtR0 hm | exact mtR1 hm | exact mtR2 hm | exact mtR3 hm | exact mtR4 hm | exact mtR5 hm | exact mtR6 hm | exact ruR0 hr | exact ruR1 hr | exact ruR3 hr) ?_
      refine pw_iload_n 5 rfl dX11_high_4 rfl ?_
      refine pw_callVP (as := [_]) 8 rfl dX11_high_5 mX11_142 vX1_has (x_has (d := d + 7) (Or.inl rfl) aM.2.1 hn7 _) (by first | rfl | assumption | exact rowS hh | exact mtS hm | exact ruS hr | exact mtA1 hm | exact mtA2 hm | exact mtA3 hm | exact mtA4 hm | exact mtA5 hm | exact mtA6 hm | exact mtA7 hm | exact ruA1 hr | exact ruA2 hr | exact ruA3 hr) rfl (by decide) ⟨rfl, by decide, by decide, show (parseMethodDescriptor yX1_has.desc).map (fun d => d.parameters.length) = some 1 by decide +kernel⟩ (by omega) (by decide) (Nat.le_of_ble_eq_true rfl) rfl ?_
      refine pw_if_eq (tgt := 21) 11 rfl dX11_high_8 rfl (fun h8 => absurd h8 (by rw [hh]; decide)) (fun h8 => ?_)
      refine pw_iload_n 12 rfl dX11_high_11 rfl ?_
      refine pw_iconst (v := nI 0) 13 rfl dX11_high_12 rfl ?_
      refine pw_bipush (v := nI 99) 15 rfl dX11_high_13 rfl ?_
      refine pw_callSP (as := [_, _, _]) 18 rfl dX11_high_15 mX11_174 sX11_outside (x_outside (d := d) _ _ _) ⟨rfl, by decide, by decide, show (parseMethodDescriptor yX11_outside.desc).map (fun d => d.parameters.length) = some 3 by decide +kernel⟩ (by omega) (by decide) (Nat.le_of_ble_eq_true rfl) rfl ?_
      refine pw_if_eq (tgt := 23) 21 rfl dX11_high_18 rfl (fun h18 => ?_) (fun h18 => absurd (by rw [out_in h1 h2 (by decide)]; rfl) h18)
      refine pw_aload_n 24 rfl dX11_high_23 rfl ?_
      refine pw_getR 27 rfl dX11_high_24 fX11_52 (by first | rfl | assumption | exact rowS hh | exact mtS hm | exact ruS hr | exact mtA1 hm | exact mtA2 hm | exact mtA3 hm | exact mtA4 hm | exact mtA5 hm | exact mtA6 hm | exact mtA7 hm | exact ruA1 hr | exact ruA2 hr | exact ruA3 hr) rfl (by first | rfl | assumption | exact mtR0 hm | exact mtR1 hm | exact mtR2 hm | exact mtR3 hm | exact mtR4 hm | exact mtR5 hm | exact mtR6 hm | exact ruR0 hr | exact ruR1 hr | exact ruR3 hr) ?_
      refine pw_iload_n 28 rfl dX11_high_27 rfl ?_
      refine pw_iload_n 29 rfl dX11_high_28 rfl ?_
      refine pw_callV (as := [_, _]) 32 rfl dX11_high_29 mX11_251 vX3_heightBehind (x_heightBehind (d := d) aM aW.1 aE h2 hq) (by first | rfl | assumption | exact rowS hh | exact mtS hm | exact ruS hr | exact mtA1 hm | exact mtA2 hm | exact mtA3 hm | exact mtA4 hm | exact mtA5 hm | exact mtA6 hm | exact mtA7 hm | exact ruA1 hr | exact ruA2 hr | exact ruA3 hr) rfl (by decide) ⟨rfl, by decide, by decide, show (parseMethodDescriptor yX3_heightBehind.desc).map (fun d => d.parameters.length) = some 2 by decide +kernel⟩ (by omega) (by decide) (Nat.le_of_ble_eq_true rfl) rfl (fun r29 I29 J29 R29 c29 => ?_)
      rotate_left
      obtain ⟨rfl, p1, p2, rfl⟩ := c29
      refine pw_iret dX11_high_32 rfl ?_
      rotate_left
      exact oQ (by unfold qHigh; rw [hi, hj]; rfl) rfl (XA_rw hA (fW_O p2) p1) rfl
    · have e : qHigh (nI q) v n pc b (ruE rt) rw hd sw = (-1, rw) := by unfold qHigh; rw [hi, hj]; rfl
      refine pw_aload_n 1 rfl dX11_high_0 rfl ?_
      refine pw_getR 4 rfl dX11_high_1 fX11_10 (by first | rfl | assumption | exact rowS hh | exact mtS hm | exact ruS hr | exact mtA1 hm | exact mtA2 hm | exact mtA3 hm | exact mtA4 hm | exact mtA5 hm | exact mtA6 hm | exact mtA7 hm | exact ruA1 hr | exact ruA2 hr | exact ruA3 hr) rfl (by first | rfl | assumption | exact mtR0 hm | exact mtR1 hm | exact mtR2 hm | exact mtR3 hm | exact mtR4 hm | exact mtR5 hm | exact mtR6 hm | exact ruR0 hr | exact ruR1 hr | exact ruR3 hr) ?_
      refine pw_iload_n 5 rfl dX11_high_4 rfl ?_
      refine pw_callVP (as := [_]) 8 rfl dX11_high_5 mX11_142 vX1_has (x_has (d := d + 7) (Or.inl rfl) aM.2.1 hn7 _) (by first | rfl | assumption | exact rowS hh | exact mtS hm | exact ruS hr | exact mtA1 hm | exact mtA2 hm | exact mtA3 hm | exact mtA4 hm | exact mtA5 hm | exact mtA6 hm | exact mtA7 hm | exact ruA1 hr | exact ruA2 hr | exact ruA3 hr) rfl (by decide) ⟨rfl, by decide, by decide, show (parseMethodDescriptor yX1_has.desc).map (fun d => d.parameters.length) = some 1 by decide +kernel⟩ (by omega) (by decide) (Nat.le_of_ble_eq_true rfl) rfl ?_
      refine pw_if_eq (tgt := 21) 11 rfl dX11_high_8 rfl (fun h8 => absurd h8 (by rw [hh]; decide)) (fun h8 => ?_)
      refine pw_iload_n 12 rfl dX11_high_11 rfl ?_
      refine pw_iconst (v := nI 0) 13 rfl dX11_high_12 rfl ?_
      refine pw_bipush (v := nI 99) 15 rfl dX11_high_13 rfl ?_
      refine pw_callSP (as := [_, _, _]) 18 rfl dX11_high_15 mX11_174 sX11_outside (x_outside (d := d) _ _ _) ⟨rfl, by decide, by decide, show (parseMethodDescriptor yX11_outside.desc).map (fun d => d.parameters.length) = some 3 by decide +kernel⟩ (by omega) (by decide) (Nat.le_of_ble_eq_true rfl) rfl ?_
      refine pw_if_eq (tgt := 23) 21 rfl dX11_high_18 rfl (fun h18 => absurd h18 (by rw [outV_y ho]; decide)) (fun h18 => ?_)
      refine pw_iconst (v := -1) 22 rfl dX11_high_21 rfl ?_
      refine pw_iret dX11_high_22 rfl ?_
      rotate_left
      exact oQ e rfl hA rfl
  · have e : qHigh w v n pc b (ruE rt) rw hd sw = (-1, rw) := by unfold qHigh; rw [hi]; rfl
    refine pw_aload_n 1 rfl dX11_high_0 rfl ?_
    refine pw_getR 4 rfl dX11_high_1 fX11_10 (by first | rfl | assumption | exact rowS hh | exact mtS hm | exact ruS hr | exact mtA1 hm | exact mtA2 hm | exact mtA3 hm | exact mtA4 hm | exact mtA5 hm | exact mtA6 hm | exact mtA7 hm | exact ruA1 hr | exact ruA2 hr | exact ruA3 hr) rfl (by first | rfl | assumption | exact mtR0 hm | exact mtR1 hm | exact mtR2 hm | exact mtR3 hm | exact mtR4 hm | exact mtR5 hm | exact mtR6 hm | exact ruR0 hr | exact ruR1 hr | exact ruR3 hr) ?_
    refine pw_iload_n 5 rfl dX11_high_4 rfl ?_
    refine pw_callVP (as := [_]) 8 rfl dX11_high_5 mX11_142 vX1_has (x_has (d := d + 7) (Or.inl rfl) aM.2.1 hn7 _) (by first | rfl | assumption | exact rowS hh | exact mtS hm | exact ruS hr | exact mtA1 hm | exact mtA2 hm | exact mtA3 hm | exact mtA4 hm | exact mtA5 hm | exact mtA6 hm | exact mtA7 hm | exact ruA1 hr | exact ruA2 hr | exact ruA3 hr) rfl (by decide) ⟨rfl, by decide, by decide, show (parseMethodDescriptor yX1_has.desc).map (fun d => d.parameters.length) = some 1 by decide +kernel⟩ (by omega) (by decide) (Nat.le_of_ble_eq_true rfl) rfl ?_
    refine pw_if_eq (tgt := 21) 11 rfl dX11_high_8 rfl (fun h8 => ?_) (fun h8 => absurd (by rw [hh]; rfl) h8)
    refine pw_iconst (v := -1) 22 rfl dX11_high_21 rfl ?_
    refine pw_iret dX11_high_22 rfl ?_
    rotate_left
    exact oQ e rfl hA rfl
def qPeaks (w v : Int32) : qFn := fun n pc b E rw hd sw => inM (qOf n w) rw (fun q => inM (inOf 1 60 v) rw (fun N => (pkB (fun j => cntP (fun t => decide (hrs n pc E (t + 1) (bu b 28 (max 2 (mxf b n) + j)) 29 = q)) N) (fun j => max 2 (mxf b n) + j) (-1) (10 - max 2 (mxf b n)), [(pkM (fun j => cntP (fun t => decide (hrs n pc E (t + 1) (bu b 28 (max 2 (mxf b n) + j)) 29 = q)) N) (10 - max 2 (mxf b n))).toInt64, lI (cntP (fun t => decide (hrs n pc E (t + 1) (bu b 28 (b 28)) 29 = q)) N)])))
set_option maxRecDepth 100000 in
set_option maxHeartbeats 2000000 in
theorem xo_peaks {d : Nat} {s : aSt} {I : pI} {J : pJ} (hA : XA I J s) (hW : WA s) (w v : Int32) : PC SX (d + 8) yX11_peaks cX11_peaks 3 (some .int) [.ref 0, .int w, .int v] (I) (J) (RX) (oP (qOp (qPeaks w v) s)) := by
  refine PC.of [some (.ref 0), some (.int w), some (.int v)] rfl rfl (Nat.le_of_ble_eq_true rfl) ?_
  obtain ⟨n, pc, b, us, kp, rw, tx, rt, hd, sw⟩ := s
  obtain ⟨aM, aE, aN, aT, aU, aK, aH, aG⟩ := id hA
  obtain ⟨aW, -, -⟩ := id hW
  have hn7 := aM.1
  rcases qOf_cases hn7 w with ⟨q, hq, rfl, hi, hh⟩ | ⟨hi, hh⟩
  · rcases inOf_cases (lo := 1) (hi := 60) (by decide) v (by decide) with ⟨N, h1, h2, rfl, hj⟩ | ⟨hj, ho⟩
    · refine pw_aload_n 1 rfl dX11_peaks_0 rfl ?_
      refine pw_getR 4 rfl dX11_peaks_1 fX11_10 (by first | rfl | assumption | exact rowS hh | exact mtS hm | exact ruS hr | exact mtA1 hm | exact mtA2 hm | exact mtA3 hm | exact mtA4 hm | exact mtA5 hm | exact mtA6 hm | exact mtA7 hm | exact ruA1 hr | exact ruA2 hr | exact ruA3 hr) rfl (by first | rfl | assumption | exact mtR0 hm | exact mtR1 hm | exact mtR2 hm | exact mtR3 hm | exact mtR4 hm | exact mtR5 hm | exact mtR6 hm | exact ruR0 hr | exact ruR1 hr | exact ruR3 hr) ?_
      refine pw_iload_n 5 rfl dX11_peaks_4 rfl ?_
      refine pw_callVP (as := [_]) 8 rfl dX11_peaks_5 mX11_142 vX1_has (x_has (d := d + 7) (Or.inl rfl) aM.2.1 hn7 _) (by first | rfl | assumption | exact rowS hh | exact mtS hm | exact ruS hr | exact mtA1 hm | exact mtA2 hm | exact mtA3 hm | exact mtA4 hm | exact mtA5 hm | exact mtA6 hm | exact mtA7 hm | exact ruA1 hr | exact ruA2 hr | exact ruA3 hr) rfl (by decide) ⟨rfl, by decide, by decide, show (parseMethodDescriptor yX1_has.desc).map (fun d => d.parameters.length) = some 1 by decide +kernel⟩ (by omega) (by decide) (Nat.le_of_ble_eq_true rfl) rfl ?_
      refine pw_if_eq (tgt := 21) 11 rfl dX11_peaks_8 rfl (fun h8 => absurd h8 (by rw [hh]; decide)) (fun h8 => ?_)
      refine pw_iload_n 12 rfl dX11_peaks_11 rfl ?_
      refine pw_iconst (v := nI 1) 13 rfl dX11_peaks_12 rfl ?_
      refine pw_bipush (v := nI 60) 15 rfl dX11_peaks_13 rfl ?_
      refine pw_callSP (as := [_, _, _]) 18 rfl dX11_peaks_15 mX11_174 sX11_outside (x_outside (d := d) _ _ _) ⟨rfl, by decide, by decide, show (parseMethodDescriptor yX11_outside.desc).map (fun d => d.parameters.length) = some 3 by decide +kernel⟩ (by omega) (by decide) (Nat.le_of_ble_eq_true rfl) rfl ?_
      refine pw_if_eq (tgt := 23) 21 rfl dX11_peaks_18 rfl (fun h18 => ?_) (fun h18 => absurd (by rw [out_in h1 h2 (by decide)]; rfl) h18)
      refine pw_aload_n 24 rfl dX11_peaks_23 rfl ?_
      refine pw_getR 27 rfl dX11_peaks_24 fX11_59 (by first | rfl | assumption | exact rowS hh | exact mtS hm | exact ruS hr | exact mtA1 hm | exact mtA2 hm | exact mtA3 hm | exact mtA4 hm | exact mtA5 hm | exact mtA6 hm | exact mtA7 hm | exact ruA1 hr | exact ruA2 hr | exact ruA3 hr) rfl (by first | rfl | assumption | exact mtR0 hm | exact mtR1 hm | exact mtR2 hm | exact mtR3 hm | exact mtR4 hm | exact mtR5 hm | exact mtR6 hm | exact ruR0 hr | exact ruR1 hr | exact ruR3 hr) ?_
      refine pw_iload_n 28 rfl dX11_peaks_27 rfl ?_
      refine pw_iload_n 29 rfl dX11_peaks_28 rfl ?_
      refine pw_callV (as := [_, _]) 32 rfl dX11_peaks_29 mX11_266 vX5_bestTop (x_bestTop (d := d) aM aW aE h2 (show q < 7 by omega)) (by first | rfl | assumption | exact rowS hh | exact mtS hm | exact ruS hr | exact mtA1 hm | exact mtA2 hm | exact mtA3 hm | exact mtA4 hm | exact mtA5 hm | exact mtA6 hm | exact mtA7 hm | exact ruA1 hr | exact ruA2 hr | exact ruA3 hr) rfl (by decide) ⟨rfl, by decide, by decide, show (parseMethodDescriptor yX5_bestTop.desc).map (fun d => d.parameters.length) = some 2 by decide +kernel⟩ (by omega) (by decide) (Nat.le_of_ble_eq_true rfl) rfl (fun r29 I29 J29 R29 c29 => ?_)
      rotate_left
      obtain ⟨rfl, p1, p2, rfl⟩ := c29
      refine pw_iret dX11_peaks_32 rfl ?_
      rotate_left
      exact oQ (by unfold qPeaks; rw [hi, hj]; rfl) rfl (XA_rw hA (fW_P p2) p1) rfl
    · have e : qPeaks (nI q) v n pc b (ruE rt) rw hd sw = (-1, rw) := by unfold qPeaks; rw [hi, hj]; rfl
      refine pw_aload_n 1 rfl dX11_peaks_0 rfl ?_
      refine pw_getR 4 rfl dX11_peaks_1 fX11_10 (by first | rfl | assumption | exact rowS hh | exact mtS hm | exact ruS hr | exact mtA1 hm | exact mtA2 hm | exact mtA3 hm | exact mtA4 hm | exact mtA5 hm | exact mtA6 hm | exact mtA7 hm | exact ruA1 hr | exact ruA2 hr | exact ruA3 hr) rfl (by first | rfl | assumption | exact mtR0 hm | exact mtR1 hm | exact mtR2 hm | exact mtR3 hm | exact mtR4 hm | exact mtR5 hm | exact mtR6 hm | exact ruR0 hr | exact ruR1 hr | exact ruR3 hr) ?_
      refine pw_iload_n 5 rfl dX11_peaks_4 rfl ?_
      refine pw_callVP (as := [_]) 8 rfl dX11_peaks_5 mX11_142 vX1_has (x_has (d := d + 7) (Or.inl rfl) aM.2.1 hn7 _) (by first | rfl | assumption | exact rowS hh | exact mtS hm | exact ruS hr | exact mtA1 hm | exact mtA2 hm | exact mtA3 hm | exact mtA4 hm | exact mtA5 hm | exact mtA6 hm | exact mtA7 hm | exact ruA1 hr | exact ruA2 hr | exact ruA3 hr) rfl (by decide) ⟨rfl, by decide, by decide, show (parseMethodDescriptor yX1_has.desc).map (fun d => d.parameters.length) = some 1 by decide +kernel⟩ (by omega) (by decide) (Nat.le_of_ble_eq_true rfl) rfl ?_
      refine pw_if_eq (tgt := 21) 11 rfl dX11_peaks_8 rfl (fun h8 => absurd h8 (by rw [hh]; decide)) (fun h8 => ?_)
      refine pw_iload_n 12 rfl dX11_peaks_11 rfl ?_
      refine pw_iconst (v := nI 1) 13 rfl dX11_peaks_12 rfl ?_
      refine pw_bipush (v := nI 60) 15 rfl dX11_peaks_13 rfl ?_
      refine pw_callSP (as := [_, _, _]) 18 rfl dX11_peaks_15 mX11_174 sX11_outside (x_outside (d := d) _ _ _) ⟨rfl, by decide, by decide, show (parseMethodDescriptor yX11_outside.desc).map (fun d => d.parameters.length) = some 3 by decide +kernel⟩ (by omega) (by decide) (Nat.le_of_ble_eq_true rfl) rfl ?_
      refine pw_if_eq (tgt := 23) 21 rfl dX11_peaks_18 rfl (fun h18 => absurd h18 (by rw [outV_y ho]; decide)) (fun h18 => ?_)
      refine pw_iconst (v := -1) 22 rfl dX11_peaks_21 rfl ?_
      refine pw_iret dX11_peaks_22 rfl ?_
      rotate_left
      exact oQ e rfl hA rfl
  · have e : qPeaks w v n pc b (ruE rt) rw hd sw = (-1, rw) := by unfold qPeaks; rw [hi]; rfl
    refine pw_aload_n 1 rfl dX11_peaks_0 rfl ?_
    refine pw_getR 4 rfl dX11_peaks_1 fX11_10 (by first | rfl | assumption | exact rowS hh | exact mtS hm | exact ruS hr | exact mtA1 hm | exact mtA2 hm | exact mtA3 hm | exact mtA4 hm | exact mtA5 hm | exact mtA6 hm | exact mtA7 hm | exact ruA1 hr | exact ruA2 hr | exact ruA3 hr) rfl (by first | rfl | assumption | exact mtR0 hm | exact mtR1 hm | exact mtR2 hm | exact mtR3 hm | exact mtR4 hm | exact mtR5 hm | exact mtR6 hm | exact ruR0 hr | exact ruR1 hr | exact ruR3 hr) ?_
    refine pw_iload_n 5 rfl dX11_peaks_4 rfl ?_
    refine pw_callVP (as := [_]) 8 rfl dX11_peaks_5 mX11_142 vX1_has (x_has (d := d + 7) (Or.inl rfl) aM.2.1 hn7 _) (by first | rfl | assumption | exact rowS hh | exact mtS hm | exact ruS hr | exact mtA1 hm | exact mtA2 hm | exact mtA3 hm | exact mtA4 hm | exact mtA5 hm | exact mtA6 hm | exact mtA7 hm | exact ruA1 hr | exact ruA2 hr | exact ruA3 hr) rfl (by decide) ⟨rfl, by decide, by decide, show (parseMethodDescriptor yX1_has.desc).map (fun d => d.parameters.length) = some 1 by decide +kernel⟩ (by omega) (by decide) (Nat.le_of_ble_eq_true rfl) rfl ?_
    refine pw_if_eq (tgt := 21) 11 rfl dX11_peaks_8 rfl (fun h8 => ?_) (fun h8 => absurd (by rw [hh]; rfl) h8)
    refine pw_iconst (v := -1) 22 rfl dX11_peaks_21 rfl ?_
    refine pw_iret dX11_peaks_22 rfl ?_
    rotate_left
    exact oQ e rfl hA rfl
def qBides (w v : Int32) : qFn := fun n pc b E rw hd sw => inM (qOf n w) rw (fun q => inM (inOf 0 60 v) rw (fun N => (fstP (fun w => decide (hrs n pc E N (bu b (14 + q) (b (14 + q) + w)) 29 = q)) id 31, if cntP (fun w => decide (hrs n pc E N (bu b (14 + q) (b (14 + q) + w)) 29 = q)) 31 = 0 then rw else [lI (cntP (fun w => decide (hrs n pc E N (bu b (14 + q) (b (14 + q) + w)) 29 = q)) 31)])))
set_option maxRecDepth 100000 in
set_option maxHeartbeats 2000000 in
theorem xo_bides {d : Nat} {s : aSt} {I : pI} {J : pJ} (hA : XA I J s) (hW : WA s) (w v : Int32) : PC SX (d + 8) yX11_bides cX11_bides 3 (some .int) [.ref 0, .int w, .int v] (I) (J) (RX) (oP (qOp (qBides w v) s)) := by
  refine PC.of [some (.ref 0), some (.int w), some (.int v)] rfl rfl (Nat.le_of_ble_eq_true rfl) ?_
  obtain ⟨n, pc, b, us, kp, rw, tx, rt, hd, sw⟩ := s
  obtain ⟨aM, aE, aN, aT, aU, aK, aH, aG⟩ := id hA
  obtain ⟨aW, -, -⟩ := id hW
  have hn7 := aM.1
  rcases qOf_cases hn7 w with ⟨q, hq, rfl, hi, hh⟩ | ⟨hi, hh⟩
  · rcases inOf_cases (lo := 0) (hi := 60) (by decide) v (by decide) with ⟨N, h1, h2, rfl, hj⟩ | ⟨hj, ho⟩
    · refine pw_aload_n 1 rfl dX11_bides_0 rfl ?_
      refine pw_getR 4 rfl dX11_bides_1 fX11_10 (by first | rfl | assumption | exact rowS hh | exact mtS hm | exact ruS hr | exact mtA1 hm | exact mtA2 hm | exact mtA3 hm | exact mtA4 hm | exact mtA5 hm | exact mtA6 hm | exact mtA7 hm | exact ruA1 hr | exact ruA2 hr | exact ruA3 hr) rfl (by first | rfl | assumption | exact mtR0 hm | exact mtR1 hm | exact mtR2 hm | exact mtR3 hm | exact mtR4 hm | exact mtR5 hm | exact mtR6 hm | exact ruR0 hr | exact ruR1 hr | exact ruR3 hr) ?_
      refine pw_iload_n 5 rfl dX11_bides_4 rfl ?_
      refine pw_callVP (as := [_]) 8 rfl dX11_bides_5 mX11_142 vX1_has (x_has (d := d + 7) (Or.inl rfl) aM.2.1 hn7 _) (by first | rfl | assumption | exact rowS hh | exact mtS hm | exact ruS hr | exact mtA1 hm | exact mtA2 hm | exact mtA3 hm | exact mtA4 hm | exact mtA5 hm | exact mtA6 hm | exact mtA7 hm | exact ruA1 hr | exact ruA2 hr | exact ruA3 hr) rfl (by decide) ⟨rfl, by decide, by decide, show (parseMethodDescriptor yX1_has.desc).map (fun d => d.parameters.length) = some 1 by decide +kernel⟩ (by omega) (by decide) (Nat.le_of_ble_eq_true rfl) rfl ?_
      refine pw_if_eq (tgt := 21) 11 rfl dX11_bides_8 rfl (fun h8 => absurd h8 (by rw [hh]; decide)) (fun h8 => ?_)
      refine pw_iload_n 12 rfl dX11_bides_11 rfl ?_
      refine pw_iconst (v := nI 0) 13 rfl dX11_bides_12 rfl ?_
      refine pw_bipush (v := nI 60) 15 rfl dX11_bides_13 rfl ?_
      refine pw_callSP (as := [_, _, _]) 18 rfl dX11_bides_15 mX11_174 sX11_outside (x_outside (d := d) _ _ _) ⟨rfl, by decide, by decide, show (parseMethodDescriptor yX11_outside.desc).map (fun d => d.parameters.length) = some 3 by decide +kernel⟩ (by omega) (by decide) (Nat.le_of_ble_eq_true rfl) rfl ?_
      refine pw_if_eq (tgt := 23) 21 rfl dX11_bides_18 rfl (fun h18 => ?_) (fun h18 => absurd (by rw [out_in h1 h2 (by decide)]; rfl) h18)
      refine pw_aload_n 24 rfl dX11_bides_23 rfl ?_
      refine pw_getR 27 rfl dX11_bides_24 fX11_59 (by first | rfl | assumption | exact rowS hh | exact mtS hm | exact ruS hr | exact mtA1 hm | exact mtA2 hm | exact mtA3 hm | exact mtA4 hm | exact mtA5 hm | exact mtA6 hm | exact mtA7 hm | exact ruA1 hr | exact ruA2 hr | exact ruA3 hr) rfl (by first | rfl | assumption | exact mtR0 hm | exact mtR1 hm | exact mtR2 hm | exact mtR3 hm | exact mtR4 hm | exact mtR5 hm | exact mtR6 hm | exact ruR0 hr | exact ruR1 hr | exact ruR3 hr) ?_
      refine pw_iload_n 28 rfl dX11_bides_27 rfl ?_
      refine pw_iload_n 29 rfl dX11_bides_28 rfl ?_
      refine pw_callV (as := [_, _]) 32 rfl dX11_bides_29 mX11_269 vX5_fewestToWait (x_fewestToWait (d := d) aM aW aE h2 hq aN) (by first | rfl | assumption | exact rowS hh | exact mtS hm | exact ruS hr | exact mtA1 hm | exact mtA2 hm | exact mtA3 hm | exact mtA4 hm | exact mtA5 hm | exact mtA6 hm | exact mtA7 hm | exact ruA1 hr | exact ruA2 hr | exact ruA3 hr) rfl (by decide) ⟨rfl, by decide, by decide, show (parseMethodDescriptor yX5_fewestToWait.desc).map (fun d => d.parameters.length) = some 2 by decide +kernel⟩ (by omega) (by decide) (Nat.le_of_ble_eq_true rfl) rfl (fun r29 I29 J29 R29 c29 => ?_)
      rotate_left
      obtain ⟨rfl, p1, p2, rfl⟩ := c29
      refine pw_iret dX11_bides_32 rfl ?_
      rotate_left
      exact oQ (by unfold qBides; rw [hi, hj]; rfl) rfl (XA_rw hA (fW_P p2) p1) rfl
    · have e : qBides (nI q) v n pc b (ruE rt) rw hd sw = (-1, rw) := by unfold qBides; rw [hi, hj]; rfl
      refine pw_aload_n 1 rfl dX11_bides_0 rfl ?_
      refine pw_getR 4 rfl dX11_bides_1 fX11_10 (by first | rfl | assumption | exact rowS hh | exact mtS hm | exact ruS hr | exact mtA1 hm | exact mtA2 hm | exact mtA3 hm | exact mtA4 hm | exact mtA5 hm | exact mtA6 hm | exact mtA7 hm | exact ruA1 hr | exact ruA2 hr | exact ruA3 hr) rfl (by first | rfl | assumption | exact mtR0 hm | exact mtR1 hm | exact mtR2 hm | exact mtR3 hm | exact mtR4 hm | exact mtR5 hm | exact mtR6 hm | exact ruR0 hr | exact ruR1 hr | exact ruR3 hr) ?_
      refine pw_iload_n 5 rfl dX11_bides_4 rfl ?_
      refine pw_callVP (as := [_]) 8 rfl dX11_bides_5 mX11_142 vX1_has (x_has (d := d + 7) (Or.inl rfl) aM.2.1 hn7 _) (by first | rfl | assumption | exact rowS hh | exact mtS hm | exact ruS hr | exact mtA1 hm | exact mtA2 hm | exact mtA3 hm | exact mtA4 hm | exact mtA5 hm | exact mtA6 hm | exact mtA7 hm | exact ruA1 hr | exact ruA2 hr | exact ruA3 hr) rfl (by decide) ⟨rfl, by decide, by decide, show (parseMethodDescriptor yX1_has.desc).map (fun d => d.parameters.length) = some 1 by decide +kernel⟩ (by omega) (by decide) (Nat.le_of_ble_eq_true rfl) rfl ?_
      refine pw_if_eq (tgt := 21) 11 rfl dX11_bides_8 rfl (fun h8 => absurd h8 (by rw [hh]; decide)) (fun h8 => ?_)
      refine pw_iload_n 12 rfl dX11_bides_11 rfl ?_
      refine pw_iconst (v := nI 0) 13 rfl dX11_bides_12 rfl ?_
      refine pw_bipush (v := nI 60) 15 rfl dX11_bides_13 rfl ?_
      refine pw_callSP (as := [_, _, _]) 18 rfl dX11_bides_15 mX11_174 sX11_outside (x_outside (d := d) _ _ _) ⟨rfl, by decide, by decide, show (parseMethodDescriptor yX11_outside.desc).map (fun d => d.parameters.length) = some 3 by decide +kernel⟩ (by omega) (by decide) (Nat.le_of_ble_eq_true rfl) rfl ?_
      refine pw_if_eq (tgt := 23) 21 rfl dX11_bides_18 rfl (fun h18 => absurd h18 (by rw [outV_y ho]; decide)) (fun h18 => ?_)
      refine pw_iconst (v := -1) 22 rfl dX11_bides_21 rfl ?_
      refine pw_iret dX11_bides_22 rfl ?_
      rotate_left
      exact oQ e rfl hA rfl
  · have e : qBides w v n pc b (ruE rt) rw hd sw = (-1, rw) := by unfold qBides; rw [hi]; rfl
    refine pw_aload_n 1 rfl dX11_bides_0 rfl ?_
    refine pw_getR 4 rfl dX11_bides_1 fX11_10 (by first | rfl | assumption | exact rowS hh | exact mtS hm | exact ruS hr | exact mtA1 hm | exact mtA2 hm | exact mtA3 hm | exact mtA4 hm | exact mtA5 hm | exact mtA6 hm | exact mtA7 hm | exact ruA1 hr | exact ruA2 hr | exact ruA3 hr) rfl (by first | rfl | assumption | exact mtR0 hm | exact mtR1 hm | exact mtR2 hm | exact mtR3 hm | exact mtR4 hm | exact mtR5 hm | exact mtR6 hm | exact ruR0 hr | exact ruR1 hr | exact ruR3 hr) ?_
    refine pw_iload_n 5 rfl dX11_bides_4 rfl ?_
    refine pw_callVP (as := [_]) 8 rfl dX11_bides_5 mX11_142 vX1_has (x_has (d := d + 7) (Or.inl rfl) aM.2.1 hn7 _) (by first | rfl | assumption | exact rowS hh | exact mtS hm | exact ruS hr | exact mtA1 hm | exact mtA2 hm | exact mtA3 hm | exact mtA4 hm | exact mtA5 hm | exact mtA6 hm | exact mtA7 hm | exact ruA1 hr | exact ruA2 hr | exact ruA3 hr) rfl (by decide) ⟨rfl, by decide, by decide, show (parseMethodDescriptor yX1_has.desc).map (fun d => d.parameters.length) = some 1 by decide +kernel⟩ (by omega) (by decide) (Nat.le_of_ble_eq_true rfl) rfl ?_
    refine pw_if_eq (tgt := 21) 11 rfl dX11_bides_8 rfl (fun h8 => ?_) (fun h8 => absurd (by rw [hh]; rfl) h8)
    refine pw_iconst (v := -1) 22 rfl dX11_bides_21 rfl ?_
    refine pw_iret dX11_bides_22 rfl ?_
    rotate_left
    exact oQ e rfl hA rfl
def qRivals (w v : Int32) : qFn := fun n pc b E rw hd sw => inM (qOf n w) rw (fun q => inM (inOf 0 60 v) rw (fun N => fewO (few (fun s => decide (s &&& cl (bts (fun q => decide (b (7 + q) ≠ 0)) n) q = s) && decide (hrs n pc E N (stay b s) 29 = q)) (cl (bts (fun q => decide (b (7 + q) ≠ 0)) n) q + 1)) rw))
set_option maxRecDepth 100000 in
set_option maxHeartbeats 2000000 in
theorem xo_rivals {d : Nat} {s : aSt} {I : pI} {J : pJ} (hA : XA I J s) (hW : WA s) (w v : Int32) : PC SX (d + 8) yX11_rivals cX11_rivals 3 (some .int) [.ref 0, .int w, .int v] (I) (J) (RX) (oP (qOp (qRivals w v) s)) := by
  refine PC.of [some (.ref 0), some (.int w), some (.int v)] rfl rfl (Nat.le_of_ble_eq_true rfl) ?_
  obtain ⟨n, pc, b, us, kp, rw, tx, rt, hd, sw⟩ := s
  obtain ⟨aM, aE, aN, aT, aU, aK, aH, aG⟩ := id hA
  obtain ⟨aW, -, -⟩ := id hW
  have hn7 := aM.1
  rcases qOf_cases hn7 w with ⟨q, hq, rfl, hi, hh⟩ | ⟨hi, hh⟩
  · rcases inOf_cases (lo := 0) (hi := 60) (by decide) v (by decide) with ⟨N, h1, h2, rfl, hj⟩ | ⟨hj, ho⟩
    · refine pw_aload_n 1 rfl dX11_rivals_0 rfl ?_
      refine pw_getR 4 rfl dX11_rivals_1 fX11_10 (by first | rfl | assumption | exact rowS hh | exact mtS hm | exact ruS hr | exact mtA1 hm | exact mtA2 hm | exact mtA3 hm | exact mtA4 hm | exact mtA5 hm | exact mtA6 hm | exact mtA7 hm | exact ruA1 hr | exact ruA2 hr | exact ruA3 hr) rfl (by first | rfl | assumption | exact mtR0 hm | exact mtR1 hm | exact mtR2 hm | exact mtR3 hm | exact mtR4 hm | exact mtR5 hm | exact mtR6 hm | exact ruR0 hr | exact ruR1 hr | exact ruR3 hr) ?_
      refine pw_iload_n 5 rfl dX11_rivals_4 rfl ?_
      refine pw_callVP (as := [_]) 8 rfl dX11_rivals_5 mX11_142 vX1_has (x_has (d := d + 7) (Or.inl rfl) aM.2.1 hn7 _) (by first | rfl | assumption | exact rowS hh | exact mtS hm | exact ruS hr | exact mtA1 hm | exact mtA2 hm | exact mtA3 hm | exact mtA4 hm | exact mtA5 hm | exact mtA6 hm | exact mtA7 hm | exact ruA1 hr | exact ruA2 hr | exact ruA3 hr) rfl (by decide) ⟨rfl, by decide, by decide, show (parseMethodDescriptor yX1_has.desc).map (fun d => d.parameters.length) = some 1 by decide +kernel⟩ (by omega) (by decide) (Nat.le_of_ble_eq_true rfl) rfl ?_
      refine pw_if_eq (tgt := 21) 11 rfl dX11_rivals_8 rfl (fun h8 => absurd h8 (by rw [hh]; decide)) (fun h8 => ?_)
      refine pw_iload_n 12 rfl dX11_rivals_11 rfl ?_
      refine pw_iconst (v := nI 0) 13 rfl dX11_rivals_12 rfl ?_
      refine pw_bipush (v := nI 60) 15 rfl dX11_rivals_13 rfl ?_
      refine pw_callSP (as := [_, _, _]) 18 rfl dX11_rivals_15 mX11_174 sX11_outside (x_outside (d := d) _ _ _) ⟨rfl, by decide, by decide, show (parseMethodDescriptor yX11_outside.desc).map (fun d => d.parameters.length) = some 3 by decide +kernel⟩ (by omega) (by decide) (Nat.le_of_ble_eq_true rfl) rfl ?_
      refine pw_if_eq (tgt := 23) 21 rfl dX11_rivals_18 rfl (fun h18 => ?_) (fun h18 => absurd (by rw [out_in h1 h2 (by decide)]; rfl) h18)
      refine pw_aload_n 24 rfl dX11_rivals_23 rfl ?_
      refine pw_getR 27 rfl dX11_rivals_24 fX11_59 (by first | rfl | assumption | exact rowS hh | exact mtS hm | exact ruS hr | exact mtA1 hm | exact mtA2 hm | exact mtA3 hm | exact mtA4 hm | exact mtA5 hm | exact mtA6 hm | exact mtA7 hm | exact ruA1 hr | exact ruA2 hr | exact ruA3 hr) rfl (by first | rfl | assumption | exact mtR0 hm | exact mtR1 hm | exact mtR2 hm | exact mtR3 hm | exact mtR4 hm | exact mtR5 hm | exact mtR6 hm | exact ruR0 hr | exact ruR1 hr | exact ruR3 hr) ?_
      refine pw_iload_n 28 rfl dX11_rivals_27 rfl ?_
      refine pw_iload_n 29 rfl dX11_rivals_28 rfl ?_
      refine pw_callV (as := [_, _]) 32 rfl dX11_rivals_29 mX11_272 vX5_fewestToStay (x_fewestToStay (d := d) aM aW aE h2 hq aN) (by first | rfl | assumption | exact rowS hh | exact mtS hm | exact ruS hr | exact mtA1 hm | exact mtA2 hm | exact mtA3 hm | exact mtA4 hm | exact mtA5 hm | exact mtA6 hm | exact mtA7 hm | exact ruA1 hr | exact ruA2 hr | exact ruA3 hr) rfl (by decide) ⟨rfl, by decide, by decide, show (parseMethodDescriptor yX5_fewestToStay.desc).map (fun d => d.parameters.length) = some 2 by decide +kernel⟩ (by omega) (by decide) (Nat.le_of_ble_eq_true rfl) rfl (fun r29 I29 J29 R29 c29 => ?_)
      rotate_left
      obtain ⟨p0, p2, rfl⟩ := c29
      obtain ⟨rfl, p1⟩ := fewP_O p0
      refine pw_iret dX11_rivals_32 rfl ?_
      rotate_left
      exact oQ (by unfold qRivals; rw [hi, hj]; rfl) rfl (XA_rw hA (fW_P p2) p1) rfl
    · have e : qRivals (nI q) v n pc b (ruE rt) rw hd sw = (-1, rw) := by unfold qRivals; rw [hi, hj]; rfl
      refine pw_aload_n 1 rfl dX11_rivals_0 rfl ?_
      refine pw_getR 4 rfl dX11_rivals_1 fX11_10 (by first | rfl | assumption | exact rowS hh | exact mtS hm | exact ruS hr | exact mtA1 hm | exact mtA2 hm | exact mtA3 hm | exact mtA4 hm | exact mtA5 hm | exact mtA6 hm | exact mtA7 hm | exact ruA1 hr | exact ruA2 hr | exact ruA3 hr) rfl (by first | rfl | assumption | exact mtR0 hm | exact mtR1 hm | exact mtR2 hm | exact mtR3 hm | exact mtR4 hm | exact mtR5 hm | exact mtR6 hm | exact ruR0 hr | exact ruR1 hr | exact ruR3 hr) ?_
      refine pw_iload_n 5 rfl dX11_rivals_4 rfl ?_
      refine pw_callVP (as := [_]) 8 rfl dX11_rivals_5 mX11_142 vX1_has (x_has (d := d + 7) (Or.inl rfl) aM.2.1 hn7 _) (by first | rfl | assumption | exact rowS hh | exact mtS hm | exact ruS hr | exact mtA1 hm | exact mtA2 hm | exact mtA3 hm | exact mtA4 hm | exact mtA5 hm | exact mtA6 hm | exact mtA7 hm | exact ruA1 hr | exact ruA2 hr | exact ruA3 hr) rfl (by decide) ⟨rfl, by decide, by decide, show (parseMethodDescriptor yX1_has.desc).map (fun d => d.parameters.length) = some 1 by decide +kernel⟩ (by omega) (by decide) (Nat.le_of_ble_eq_true rfl) rfl ?_
      refine pw_if_eq (tgt := 21) 11 rfl dX11_rivals_8 rfl (fun h8 => absurd h8 (by rw [hh]; decide)) (fun h8 => ?_)
      refine pw_iload_n 12 rfl dX11_rivals_11 rfl ?_
      refine pw_iconst (v := nI 0) 13 rfl dX11_rivals_12 rfl ?_
      refine pw_bipush (v := nI 60) 15 rfl dX11_rivals_13 rfl ?_
      refine pw_callSP (as := [_, _, _]) 18 rfl dX11_rivals_15 mX11_174 sX11_outside (x_outside (d := d) _ _ _) ⟨rfl, by decide, by decide, show (parseMethodDescriptor yX11_outside.desc).map (fun d => d.parameters.length) = some 3 by decide +kernel⟩ (by omega) (by decide) (Nat.le_of_ble_eq_true rfl) rfl ?_
      refine pw_if_eq (tgt := 23) 21 rfl dX11_rivals_18 rfl (fun h18 => absurd h18 (by rw [outV_y ho]; decide)) (fun h18 => ?_)
      refine pw_iconst (v := -1) 22 rfl dX11_rivals_21 rfl ?_
      refine pw_iret dX11_rivals_22 rfl ?_
      rotate_left
      exact oQ e rfl hA rfl
  · have e : qRivals w v n pc b (ruE rt) rw hd sw = (-1, rw) := by unfold qRivals; rw [hi]; rfl
    refine pw_aload_n 1 rfl dX11_rivals_0 rfl ?_
    refine pw_getR 4 rfl dX11_rivals_1 fX11_10 (by first | rfl | assumption | exact rowS hh | exact mtS hm | exact ruS hr | exact mtA1 hm | exact mtA2 hm | exact mtA3 hm | exact mtA4 hm | exact mtA5 hm | exact mtA6 hm | exact mtA7 hm | exact ruA1 hr | exact ruA2 hr | exact ruA3 hr) rfl (by first | rfl | assumption | exact mtR0 hm | exact mtR1 hm | exact mtR2 hm | exact mtR3 hm | exact mtR4 hm | exact mtR5 hm | exact mtR6 hm | exact ruR0 hr | exact ruR1 hr | exact ruR3 hr) ?_
    refine pw_iload_n 5 rfl dX11_rivals_4 rfl ?_
    refine pw_callVP (as := [_]) 8 rfl dX11_rivals_5 mX11_142 vX1_has (x_has (d := d + 7) (Or.inl rfl) aM.2.1 hn7 _) (by first | rfl | assumption | exact rowS hh | exact mtS hm | exact ruS hr | exact mtA1 hm | exact mtA2 hm | exact mtA3 hm | exact mtA4 hm | exact mtA5 hm | exact mtA6 hm | exact mtA7 hm | exact ruA1 hr | exact ruA2 hr | exact ruA3 hr) rfl (by decide) ⟨rfl, by decide, by decide, show (parseMethodDescriptor yX1_has.desc).map (fun d => d.parameters.length) = some 1 by decide +kernel⟩ (by omega) (by decide) (Nat.le_of_ble_eq_true rfl) rfl ?_
    refine pw_if_eq (tgt := 21) 11 rfl dX11_rivals_8 rfl (fun h8 => ?_) (fun h8 => absurd (by rw [hh]; rfl) h8)
    refine pw_iconst (v := -1) 22 rfl dX11_rivals_21 rfl ?_
    refine pw_iret dX11_rivals_22 rfl ?_
    rotate_left
    exact oQ e rfl hA rfl
def qOusts (w v : Int32) : qFn := fun n pc b E rw hd sw => inM (qOf n w) rw (fun q => inM (inOf 0 60 v) rw (fun N => fewO (few (fun s => decide (s &&& frees n b = s) && decide (hrs n pc E N (setb b s) 29 ≠ q)) (frees n b + 1)) rw))
set_option maxRecDepth 100000 in
set_option maxHeartbeats 2000000 in
theorem xo_ousts {d : Nat} {s : aSt} {I : pI} {J : pJ} (hA : XA I J s) (hW : WA s) (w v : Int32) : PC SX (d + 8) yX11_ousts cX11_ousts 3 (some .int) [.ref 0, .int w, .int v] (I) (J) (RX) (oP (qOp (qOusts w v) s)) := by
  refine PC.of [some (.ref 0), some (.int w), some (.int v)] rfl rfl (Nat.le_of_ble_eq_true rfl) ?_
  obtain ⟨n, pc, b, us, kp, rw, tx, rt, hd, sw⟩ := s
  obtain ⟨aM, aE, aN, aT, aU, aK, aH, aG⟩ := id hA
  obtain ⟨aW, -, -⟩ := id hW
  have hn7 := aM.1
  rcases qOf_cases hn7 w with ⟨q, hq, rfl, hi, hh⟩ | ⟨hi, hh⟩
  · rcases inOf_cases (lo := 0) (hi := 60) (by decide) v (by decide) with ⟨N, h1, h2, rfl, hj⟩ | ⟨hj, ho⟩
    · refine pw_aload_n 1 rfl dX11_ousts_0 rfl ?_
      refine pw_getR 4 rfl dX11_ousts_1 fX11_10 (by first | rfl | assumption | exact rowS hh | exact mtS hm | exact ruS hr | exact mtA1 hm | exact mtA2 hm | exact mtA3 hm | exact mtA4 hm | exact mtA5 hm | exact mtA6 hm | exact mtA7 hm | exact ruA1 hr | exact ruA2 hr | exact ruA3 hr) rfl (by first | rfl | assumption | exact mtR0 hm | exact mtR1 hm | exact mtR2 hm | exact mtR3 hm | exact mtR4 hm | exact mtR5 hm | exact mtR6 hm | exact ruR0 hr | exact ruR1 hr | exact ruR3 hr) ?_
      refine pw_iload_n 5 rfl dX11_ousts_4 rfl ?_
      refine pw_callVP (as := [_]) 8 rfl dX11_ousts_5 mX11_142 vX1_has (x_has (d := d + 7) (Or.inl rfl) aM.2.1 hn7 _) (by first | rfl | assumption | exact rowS hh | exact mtS hm | exact ruS hr | exact mtA1 hm | exact mtA2 hm | exact mtA3 hm | exact mtA4 hm | exact mtA5 hm | exact mtA6 hm | exact mtA7 hm | exact ruA1 hr | exact ruA2 hr | exact ruA3 hr) rfl (by decide) ⟨rfl, by decide, by decide, show (parseMethodDescriptor yX1_has.desc).map (fun d => d.parameters.length) = some 1 by decide +kernel⟩ (by omega) (by decide) (Nat.le_of_ble_eq_true rfl) rfl ?_
      refine pw_if_eq (tgt := 21) 11 rfl dX11_ousts_8 rfl (fun h8 => absurd h8 (by rw [hh]; decide)) (fun h8 => ?_)
      refine pw_iload_n 12 rfl dX11_ousts_11 rfl ?_
      refine pw_iconst (v := nI 0) 13 rfl dX11_ousts_12 rfl ?_
      refine pw_bipush (v := nI 60) 15 rfl dX11_ousts_13 rfl ?_
      refine pw_callSP (as := [_, _, _]) 18 rfl dX11_ousts_15 mX11_174 sX11_outside (x_outside (d := d) _ _ _) ⟨rfl, by decide, by decide, show (parseMethodDescriptor yX11_outside.desc).map (fun d => d.parameters.length) = some 3 by decide +kernel⟩ (by omega) (by decide) (Nat.le_of_ble_eq_true rfl) rfl ?_
      refine pw_if_eq (tgt := 23) 21 rfl dX11_ousts_18 rfl (fun h18 => ?_) (fun h18 => absurd (by rw [out_in h1 h2 (by decide)]; rfl) h18)
      refine pw_aload_n 24 rfl dX11_ousts_23 rfl ?_
      refine pw_getR 27 rfl dX11_ousts_24 fX11_59 (by first | rfl | assumption | exact rowS hh | exact mtS hm | exact ruS hr | exact mtA1 hm | exact mtA2 hm | exact mtA3 hm | exact mtA4 hm | exact mtA5 hm | exact mtA6 hm | exact mtA7 hm | exact ruA1 hr | exact ruA2 hr | exact ruA3 hr) rfl (by first | rfl | assumption | exact mtR0 hm | exact mtR1 hm | exact mtR2 hm | exact mtR3 hm | exact mtR4 hm | exact mtR5 hm | exact mtR6 hm | exact ruR0 hr | exact ruR1 hr | exact ruR3 hr) ?_
      refine pw_iload_n 28 rfl dX11_ousts_27 rfl ?_
      refine pw_iload_n 29 rfl dX11_ousts_28 rfl ?_
      refine pw_callV (as := [_, _]) 32 rfl dX11_ousts_29 mX11_278 vX5_fewestToSetOut (x_fewestToSetOut (d := d) aM aW.1 aE h2 hq aN) (by first | rfl | assumption | exact rowS hh | exact mtS hm | exact ruS hr | exact mtA1 hm | exact mtA2 hm | exact mtA3 hm | exact mtA4 hm | exact mtA5 hm | exact mtA6 hm | exact mtA7 hm | exact ruA1 hr | exact ruA2 hr | exact ruA3 hr) rfl (by decide) ⟨rfl, by decide, by decide, show (parseMethodDescriptor yX5_fewestToSetOut.desc).map (fun d => d.parameters.length) = some 2 by decide +kernel⟩ (by omega) (by decide) (Nat.le_of_ble_eq_true rfl) rfl (fun r29 I29 J29 R29 c29 => ?_)
      rotate_left
      obtain ⟨p0, p2, rfl⟩ := c29
      obtain ⟨rfl, p1⟩ := fewP_O p0
      refine pw_iret dX11_ousts_32 rfl ?_
      rotate_left
      exact oQ (by unfold qOusts; rw [hi, hj]; rfl) rfl (XA_rw hA (fW_P p2) p1) rfl
    · have e : qOusts (nI q) v n pc b (ruE rt) rw hd sw = (-1, rw) := by unfold qOusts; rw [hi, hj]; rfl
      refine pw_aload_n 1 rfl dX11_ousts_0 rfl ?_
      refine pw_getR 4 rfl dX11_ousts_1 fX11_10 (by first | rfl | assumption | exact rowS hh | exact mtS hm | exact ruS hr | exact mtA1 hm | exact mtA2 hm | exact mtA3 hm | exact mtA4 hm | exact mtA5 hm | exact mtA6 hm | exact mtA7 hm | exact ruA1 hr | exact ruA2 hr | exact ruA3 hr) rfl (by first | rfl | assumption | exact mtR0 hm | exact mtR1 hm | exact mtR2 hm | exact mtR3 hm | exact mtR4 hm | exact mtR5 hm | exact mtR6 hm | exact ruR0 hr | exact ruR1 hr | exact ruR3 hr) ?_
      refine pw_iload_n 5 rfl dX11_ousts_4 rfl ?_
      refine pw_callVP (as := [_]) 8 rfl dX11_ousts_5 mX11_142 vX1_has (x_has (d := d + 7) (Or.inl rfl) aM.2.1 hn7 _) (by first | rfl | assumption | exact rowS hh | exact mtS hm | exact ruS hr | exact mtA1 hm | exact mtA2 hm | exact mtA3 hm | exact mtA4 hm | exact mtA5 hm | exact mtA6 hm | exact mtA7 hm | exact ruA1 hr | exact ruA2 hr | exact ruA3 hr) rfl (by decide) ⟨rfl, by decide, by decide, show (parseMethodDescriptor yX1_has.desc).map (fun d => d.parameters.length) = some 1 by decide +kernel⟩ (by omega) (by decide) (Nat.le_of_ble_eq_true rfl) rfl ?_
      refine pw_if_eq (tgt := 21) 11 rfl dX11_ousts_8 rfl (fun h8 => absurd h8 (by rw [hh]; decide)) (fun h8 => ?_)
      refine pw_iload_n 12 rfl dX11_ousts_11 rfl ?_
      refine pw_iconst (v := nI 0) 13 rfl dX11_ousts_12 rfl ?_
      refine pw_bipush (v := nI 60) 15 rfl dX11_ousts_13 rfl ?_
      refine pw_callSP (as := [_, _, _]) 18 rfl dX11_ousts_15 mX11_174 sX11_outside (x_outside (d := d) _ _ _) ⟨rfl, by decide, by decide, show (parseMethodDescriptor yX11_outside.desc).map (fun d => d.parameters.length) = some 3 by decide +kernel⟩ (by omega) (by decide) (Nat.le_of_ble_eq_true rfl) rfl ?_
      refine pw_if_eq (tgt := 23) 21 rfl dX11_ousts_18 rfl (fun h18 => absurd h18 (by rw [outV_y ho]; decide)) (fun h18 => ?_)
      refine pw_iconst (v := -1) 22 rfl dX11_ousts_21 rfl ?_
      refine pw_iret dX11_ousts_22 rfl ?_
      rotate_left
      exact oQ e rfl hA rfl
  · have e : qOusts w v n pc b (ruE rt) rw hd sw = (-1, rw) := by unfold qOusts; rw [hi]; rfl
    refine pw_aload_n 1 rfl dX11_ousts_0 rfl ?_
    refine pw_getR 4 rfl dX11_ousts_1 fX11_10 (by first | rfl | assumption | exact rowS hh | exact mtS hm | exact ruS hr | exact mtA1 hm | exact mtA2 hm | exact mtA3 hm | exact mtA4 hm | exact mtA5 hm | exact mtA6 hm | exact mtA7 hm | exact ruA1 hr | exact ruA2 hr | exact ruA3 hr) rfl (by first | rfl | assumption | exact mtR0 hm | exact mtR1 hm | exact mtR2 hm | exact mtR3 hm | exact mtR4 hm | exact mtR5 hm | exact mtR6 hm | exact ruR0 hr | exact ruR1 hr | exact ruR3 hr) ?_
    refine pw_iload_n 5 rfl dX11_ousts_4 rfl ?_
    refine pw_callVP (as := [_]) 8 rfl dX11_ousts_5 mX11_142 vX1_has (x_has (d := d + 7) (Or.inl rfl) aM.2.1 hn7 _) (by first | rfl | assumption | exact rowS hh | exact mtS hm | exact ruS hr | exact mtA1 hm | exact mtA2 hm | exact mtA3 hm | exact mtA4 hm | exact mtA5 hm | exact mtA6 hm | exact mtA7 hm | exact ruA1 hr | exact ruA2 hr | exact ruA3 hr) rfl (by decide) ⟨rfl, by decide, by decide, show (parseMethodDescriptor yX1_has.desc).map (fun d => d.parameters.length) = some 1 by decide +kernel⟩ (by omega) (by decide) (Nat.le_of_ble_eq_true rfl) rfl ?_
    refine pw_if_eq (tgt := 21) 11 rfl dX11_ousts_8 rfl (fun h8 => ?_) (fun h8 => absurd (by rw [hh]; rfl) h8)
    refine pw_iconst (v := -1) 22 rfl dX11_ousts_21 rfl ?_
    refine pw_iret dX11_ousts_22 rfl ?_
    rotate_left
    exact oQ e rfl hA rfl
def qRope  : qFn := fun n pc b E rw hd sw => (nI (rpM n b n), (rpS (rpT n b n) b (rpM n b n) n).1)
set_option maxRecDepth 100000 in
set_option maxHeartbeats 2000000 in
theorem xo_rope {d : Nat} {s : aSt} {I : pI} {J : pJ} (hA : XA I J s) (hW : WA s) : PC SX (d + 8) yX11_rope cX11_rope 1 (some .int) [.ref 0] (I) (J) (RX) (oP (qOp qRope s)) := by
  refine PC.of [some (.ref 0)] rfl rfl (Nat.le_of_ble_eq_true rfl) ?_
  obtain ⟨n, pc, b, us, kp, rw, tx, rt, hd, sw⟩ := s
  obtain ⟨aM, aE, aN, aT, aU, aK, aH, aG⟩ := id hA
  obtain ⟨aW, -, -⟩ := id hW
  refine pw_aload_n 1 rfl dX11_rope_0 rfl ?_
  refine pw_getR 4 rfl dX11_rope_1 fX11_68 (by first | rfl | assumption | exact rowS hh | exact mtS hm | exact ruS hr | exact mtA1 hm | exact mtA2 hm | exact mtA3 hm | exact mtA4 hm | exact mtA5 hm | exact mtA6 hm | exact mtA7 hm | exact ruA1 hr | exact ruA2 hr | exact ruA3 hr) rfl (by first | rfl | assumption | exact mtR0 hm | exact mtR1 hm | exact mtR2 hm | exact mtR3 hm | exact mtR4 hm | exact mtR5 hm | exact mtR6 hm | exact ruR0 hr | exact ruR1 hr | exact ruR3 hr) ?_
  refine pw_callV (as := []) 7 rfl dX11_rope_4 mX11_284 vX9_longestRope (x_longestRope (d := d + 5) aM aW.1) (by first | rfl | assumption | exact rowS hh | exact mtS hm | exact ruS hr | exact mtA1 hm | exact mtA2 hm | exact mtA3 hm | exact mtA4 hm | exact mtA5 hm | exact mtA6 hm | exact mtA7 hm | exact ruA1 hr | exact ruA2 hr | exact ruA3 hr) rfl (by decide) ⟨rfl, by decide, by decide, show (parseMethodDescriptor yX9_longestRope.desc).map (fun d => d.parameters.length) = some 0 by decide +kernel⟩ (by omega) (by decide) (Nat.le_of_ble_eq_true rfl) rfl (fun r4 I4 J4 R4 c4 => ?_)
  obtain ⟨rfl, p1, p2, rfl⟩ := c4
  rotate_left
  refine pw_iret dX11_rope_7 rfl ?_
  rotate_left
  exact oQ rfl rfl (XA_rw hA (fW_S p2) p1) rfl
def qLine  : qFn := fun n pc b E rw hd sw => (nI n, lnO b n 10)
set_option maxRecDepth 100000 in
set_option maxHeartbeats 2000000 in
theorem xo_line {d : Nat} {s : aSt} {I : pI} {J : pJ} (hA : XA I J s) (hW : WA s) : PC SX (d + 8) yX11_line cX11_line 1 (some .int) [.ref 0] (I) (J) (RX) (oP (qOp qLine s)) := by
  refine PC.of [some (.ref 0)] rfl rfl (Nat.le_of_ble_eq_true rfl) ?_
  obtain ⟨n, pc, b, us, kp, rw, tx, rt, hd, sw⟩ := s
  obtain ⟨aM, aE, aN, aT, aU, aK, aH, aG⟩ := id hA
  obtain ⟨aW, -, -⟩ := id hW
  refine pw_aload_n 1 rfl dX11_line_0 rfl ?_
  refine pw_getR 4 rfl dX11_line_1 fX11_68 (by first | rfl | assumption | exact rowS hh | exact mtS hm | exact ruS hr | exact mtA1 hm | exact mtA2 hm | exact mtA3 hm | exact mtA4 hm | exact mtA5 hm | exact mtA6 hm | exact mtA7 hm | exact ruA1 hr | exact ruA2 hr | exact ruA3 hr) rfl (by first | rfl | assumption | exact mtR0 hm | exact mtR1 hm | exact mtR2 hm | exact mtR3 hm | exact mtR4 hm | exact mtR5 hm | exact mtR6 hm | exact ruR0 hr | exact ruR1 hr | exact ruR3 hr) ?_
  refine pw_callV (as := []) 7 rfl dX11_line_4 mX11_287 vX9_fromTheHighest (x_fromTheHighest (d := d + 6) aM aW.1) (by first | rfl | assumption | exact rowS hh | exact mtS hm | exact ruS hr | exact mtA1 hm | exact mtA2 hm | exact mtA3 hm | exact mtA4 hm | exact mtA5 hm | exact mtA6 hm | exact mtA7 hm | exact ruA1 hr | exact ruA2 hr | exact ruA3 hr) rfl (by decide) ⟨rfl, by decide, by decide, show (parseMethodDescriptor yX9_fromTheHighest.desc).map (fun d => d.parameters.length) = some 0 by decide +kernel⟩ (by omega) (by decide) (Nat.le_of_ble_eq_true rfl) rfl (fun r4 I4 J4 R4 c4 => ?_)
  obtain ⟨rfl, p1, p2, rfl⟩ := c4
  rotate_left
  refine pw_iret dX11_line_7 rfl ?_
  rotate_left
  exact oQ rfl rfl (XA_rw hA (fW_S p2) p1) rfl
def qNearest  : qFn := fun n pc b E rw hd sw => (nrV (nout b n n), nrW (nout b n n) rw)
set_option maxRecDepth 100000 in
set_option maxHeartbeats 2000000 in
theorem xo_nearest {d : Nat} {s : aSt} {I : pI} {J : pJ} (hA : XA I J s) (hW : WA s) : PC SX (d + 8) yX11_nearest cX11_nearest 1 (some .int) [.ref 0] (I) (J) (RX) (oP (qOp qNearest s)) := by
  refine PC.of [some (.ref 0)] rfl rfl (Nat.le_of_ble_eq_true rfl) ?_
  obtain ⟨n, pc, b, us, kp, rw, tx, rt, hd, sw⟩ := s
  obtain ⟨aM, aE, aN, aT, aU, aK, aH, aG⟩ := id hA
  obtain ⟨aW, -, -⟩ := id hW
  refine pw_aload_n 1 rfl dX11_nearest_0 rfl ?_
  refine pw_getR 4 rfl dX11_nearest_1 fX11_68 (by first | rfl | assumption | exact rowS hh | exact mtS hm | exact ruS hr | exact mtA1 hm | exact mtA2 hm | exact mtA3 hm | exact mtA4 hm | exact mtA5 hm | exact mtA6 hm | exact mtA7 hm | exact ruA1 hr | exact ruA2 hr | exact ruA3 hr) rfl (by first | rfl | assumption | exact mtR0 hm | exact mtR1 hm | exact mtR2 hm | exact mtR3 hm | exact mtR4 hm | exact mtR5 hm | exact mtR6 hm | exact ruR0 hr | exact ruR1 hr | exact ruR3 hr) ?_
  refine pw_callV (as := []) 7 rfl dX11_nearest_4 mX11_290 vX9_nearestTwo (x_nearestTwo (d := d + 4) aM aW.1 aN) (by first | rfl | assumption | exact rowS hh | exact mtS hm | exact ruS hr | exact mtA1 hm | exact mtA2 hm | exact mtA3 hm | exact mtA4 hm | exact mtA5 hm | exact mtA6 hm | exact mtA7 hm | exact ruA1 hr | exact ruA2 hr | exact ruA3 hr) rfl (by decide) ⟨rfl, by decide, by decide, show (parseMethodDescriptor yX9_nearestTwo.desc).map (fun d => d.parameters.length) = some 0 by decide +kernel⟩ (by omega) (by decide) (Nat.le_of_ble_eq_true rfl) rfl (fun r4 I4 J4 R4 c4 => ?_)
  obtain ⟨rfl, p1, p2, rfl⟩ := c4
  rotate_left
  refine pw_iret dX11_nearest_7 rfl ?_
  rotate_left
  exact oQ rfl rfl (XA_rw hA (fW_S p2) p1) rfl
def qParties  : qFn := fun n pc b E rw hd sw => (nI (evp (sumN pc n) (dfr n pc) (2 ^ n)).1, [lI (evp (sumN pc n) (dfr n pc) (2 ^ n)).2, lI (sumS pc (evp (sumN pc n) (dfr n pc) (2 ^ n)).2 n)])
set_option maxRecDepth 100000 in
set_option maxHeartbeats 2000000 in
theorem xo_parties {d : Nat} {s : aSt} {I : pI} {J : pJ} (hA : XA I J s) (hW : WA s) : PC SX (d + 8) yX11_parties cX11_parties 1 (some .int) [.ref 0] (I) (J) (RX) (oP (qOp qParties s)) := by
  refine PC.of [some (.ref 0)] rfl rfl (Nat.le_of_ble_eq_true rfl) ?_
  obtain ⟨n, pc, b, us, kp, rw, tx, rt, hd, sw⟩ := s
  obtain ⟨aM, aE, aN, aT, aU, aK, aH, aG⟩ := id hA
  obtain ⟨aW, -, -⟩ := id hW
  refine pw_aload_n 1 rfl dX11_parties_0 rfl ?_
  refine pw_getR 4 rfl dX11_parties_1 fX11_68 (by first | rfl | assumption | exact rowS hh | exact mtS hm | exact ruS hr | exact mtA1 hm | exact mtA2 hm | exact mtA3 hm | exact mtA4 hm | exact mtA5 hm | exact mtA6 hm | exact mtA7 hm | exact ruA1 hr | exact ruA2 hr | exact ruA3 hr) rfl (by first | rfl | assumption | exact mtR0 hm | exact mtR1 hm | exact mtR2 hm | exact mtR3 hm | exact mtR4 hm | exact mtR5 hm | exact mtR6 hm | exact ruR0 hr | exact ruR1 hr | exact ruR3 hr) ?_
  refine pw_callV (as := []) 7 rfl dX11_parties_4 mX11_296 vX9_evenParties (x_evenParties (d := d + 4) aM aW.1) (by first | rfl | assumption | exact rowS hh | exact mtS hm | exact ruS hr | exact mtA1 hm | exact mtA2 hm | exact mtA3 hm | exact mtA4 hm | exact mtA5 hm | exact mtA6 hm | exact mtA7 hm | exact ruA1 hr | exact ruA2 hr | exact ruA3 hr) rfl (by decide) ⟨rfl, by decide, by decide, show (parseMethodDescriptor yX9_evenParties.desc).map (fun d => d.parameters.length) = some 0 by decide +kernel⟩ (by omega) (by decide) (Nat.le_of_ble_eq_true rfl) rfl (fun r4 I4 J4 R4 c4 => ?_)
  obtain ⟨rfl, p1, p2, rfl⟩ := c4
  rotate_left
  refine pw_iret dX11_parties_7 rfl ?_
  rotate_left
  exact oQ rfl rfl (XA_rw hA (fW_S p2) p1) rfl
def qFits  : qFn := fun n pc b E rw hd sw => (nI (bts (fitP n pc b hd) n), [lI (popc (bts (fitP n pc b hd) n))])
set_option maxRecDepth 100000 in
set_option maxHeartbeats 2000000 in
theorem xo_fits {d : Nat} {s : aSt} {I : pI} {J : pJ} (hA : XA I J s) (hW : WA s) : PC SX (d + 8) yX11_fits cX11_fits 1 (some .int) [.ref 0] (I) (J) (RX) (oP (qOp qFits s)) := by
  refine PC.of [some (.ref 0)] rfl rfl (Nat.le_of_ble_eq_true rfl) ?_
  obtain ⟨n, pc, b, us, kp, rw, tx, rt, hd, sw⟩ := s
  obtain ⟨aM, aE, aN, aT, aU, aK, aH, aG⟩ := id hA
  obtain ⟨aW, -, -⟩ := id hW
  refine pw_aload_n 1 rfl dX11_fits_0 rfl ?_
  refine pw_getR 4 rfl dX11_fits_1 fX11_75 (by first | rfl | assumption | exact rowS hh | exact mtS hm | exact ruS hr | exact mtA1 hm | exact mtA2 hm | exact mtA3 hm | exact mtA4 hm | exact mtA5 hm | exact mtA6 hm | exact mtA7 hm | exact ruA1 hr | exact ruA2 hr | exact ruA3 hr) rfl (by first | rfl | assumption | exact mtR0 hm | exact mtR1 hm | exact mtR2 hm | exact mtR3 hm | exact mtR4 hm | exact mtR5 hm | exact mtR6 hm | exact ruR0 hr | exact ruR1 hr | exact ruR3 hr) ?_
  refine pw_callV (as := []) 7 rfl dX11_fits_4 mX11_305 vX7_fitting (x_fitting (d := d + 4) aM aW.1 aH) (by first | rfl | assumption | exact rowS hh | exact mtS hm | exact ruS hr | exact mtA1 hm | exact mtA2 hm | exact mtA3 hm | exact mtA4 hm | exact mtA5 hm | exact mtA6 hm | exact mtA7 hm | exact ruA1 hr | exact ruA2 hr | exact ruA3 hr) rfl (by decide) ⟨rfl, by decide, by decide, show (parseMethodDescriptor yX7_fitting.desc).map (fun d => d.parameters.length) = some 0 by decide +kernel⟩ (by omega) (by decide) (Nat.le_of_ble_eq_true rfl) rfl (fun r4 I4 J4 R4 c4 => ?_)
  obtain ⟨rfl, p1, p2, rfl⟩ := c4
  rotate_left
  refine pw_iret dX11_fits_7 rfl ?_
  rotate_left
  exact oQ rfl rfl (XA_rw hA (fW_19 p2) p1) rfl
def qAsks  : qFn := fun n pc b E rw hd sw => (if bts (fitP n pc b hd) n = 0 then -2 else bqI (fun k => lefN n pc b (bts (fitP n pc b hd) n) (aq k)) (popc (bts (fitP n pc b hd) n) + 1) 25, if bts (fitP n pc b hd) n = 0 then rw else [lI (evp (popc (bts (fitP n pc b hd) n) + 1) (fun k => lefN n pc b (bts (fitP n pc b hd) n) (aq k)) 25).1])
set_option maxRecDepth 100000 in
set_option maxHeartbeats 2000000 in
theorem xo_asks {d : Nat} {s : aSt} {I : pI} {J : pJ} (hA : XA I J s) (hW : WA s) : PC SX (d + 8) yX11_asks cX11_asks 1 (some .int) [.ref 0] (I) (J) (RX) (oP (qOp qAsks s)) := by
  refine PC.of [some (.ref 0)] rfl rfl (Nat.le_of_ble_eq_true rfl) ?_
  obtain ⟨n, pc, b, us, kp, rw, tx, rt, hd, sw⟩ := s
  obtain ⟨aM, aE, aN, aT, aU, aK, aH, aG⟩ := id hA
  obtain ⟨aW, -, -⟩ := id hW
  refine pw_aload_n 1 rfl dX11_asks_0 rfl ?_
  refine pw_getR 4 rfl dX11_asks_1 fX11_75 (by first | rfl | assumption | exact rowS hh | exact mtS hm | exact ruS hr | exact mtA1 hm | exact mtA2 hm | exact mtA3 hm | exact mtA4 hm | exact mtA5 hm | exact mtA6 hm | exact mtA7 hm | exact ruA1 hr | exact ruA2 hr | exact ruA3 hr) rfl (by first | rfl | assumption | exact mtR0 hm | exact mtR1 hm | exact mtR2 hm | exact mtR3 hm | exact mtR4 hm | exact mtR5 hm | exact mtR6 hm | exact ruR0 hr | exact ruR1 hr | exact ruR3 hr) ?_
  refine pw_callV (as := []) 7 rfl dX11_asks_4 mX11_308 vX7_bestQuestion (x_bestQuestion (d := d + 4) aM aW.1 aH aN) (by first | rfl | assumption | exact rowS hh | exact mtS hm | exact ruS hr | exact mtA1 hm | exact mtA2 hm | exact mtA3 hm | exact mtA4 hm | exact mtA5 hm | exact mtA6 hm | exact mtA7 hm | exact ruA1 hr | exact ruA2 hr | exact ruA3 hr) rfl (by decide) ⟨rfl, by decide, by decide, show (parseMethodDescriptor yX7_bestQuestion.desc).map (fun d => d.parameters.length) = some 0 by decide +kernel⟩ (by omega) (by decide) (Nat.le_of_ble_eq_true rfl) rfl (fun r4 I4 J4 R4 c4 => ?_)
  obtain ⟨rfl, p1, p2, rfl⟩ := c4
  rotate_left
  refine pw_iret dX11_asks_7 rfl ?_
  rotate_left
  exact oQ rfl rfl (XA_rw hA (fW_19 p2) p1) rfl
