/-! the class's other methods -/
def qEmpty : qFn := fun n pc b E rw _ _ => emO n (fun t => hrs n pc E t b) rw (fstL (fun k => decide (bts (fun q => decide (hrs n pc E k b (7 + q) ≠ 0)) n = 0)) 100)
set_option maxRecDepth 100000 in
set_option maxHeartbeats 2000000 in
theorem xo_empty {d : Nat} {s : aSt} {I : pI} {J : pJ} (hA : XA I J s) (hW : WA s) : PC SX (d + 8) yX11_empty cX11_empty 1 (some .int) [.ref 0] (I) (J) (RX) (oP (qOp qEmpty s)) := by
  refine PC.of [some (.ref 0)] rfl rfl (Nat.le_of_ble_eq_true rfl) ?_
  obtain ⟨n, pc, b, us, kp, rw, tx, rt, hd, sw⟩ := s
  obtain ⟨aM, aE, aN, aT, aU, aK, aH, aG⟩ := id hA
  obtain ⟨aW, -, -⟩ := id hW
  refine pw_aload_n 1 rfl dX11_empty_0 rfl ?_
  refine pw_getR 4 rfl dX11_empty_1 fX11_52 (by first | rfl | assumption | exact rowS hh | exact mtS hm | exact ruS hr | exact mtA1 hm | exact mtA2 hm | exact mtA3 hm | exact mtA4 hm | exact mtA5 hm | exact mtA6 hm | exact mtA7 hm | exact ruA1 hr | exact ruA2 hr | exact ruA3 hr) rfl (by first | rfl | assumption | exact mtR0 hm | exact mtR1 hm | exact mtR2 hm | exact mtR3 hm | exact mtR4 hm | exact mtR5 hm | exact mtR6 hm | exact ruR0 hr | exact ruR1 hr | exact ruR3 hr) ?_
  refine pw_callV (as := []) 7 rfl dX11_empty_4 mX11_248 vX3_firstEmpty (x_firstEmpty (d := d + 1) aM aW.1 aE aN) (by first | rfl | assumption | exact rowS hh | exact mtS hm | exact ruS hr | exact mtA1 hm | exact mtA2 hm | exact mtA3 hm | exact mtA4 hm | exact mtA5 hm | exact mtA6 hm | exact mtA7 hm | exact ruA1 hr | exact ruA2 hr | exact ruA3 hr) rfl (by decide) ⟨rfl, by decide, by decide, show (parseMethodDescriptor yX3_firstEmpty.desc).map (fun d => d.parameters.length) = some 0 by decide +kernel⟩ (by omega) (by decide) (Nat.le_of_ble_eq_true rfl) rfl (fun r4 I4 J4 R4 c4 => ?_)
  rotate_left
  obtain ⟨p0, p2, rfl⟩ := c4
  rcases p0 with ⟨t, t1, t2, t3, rfl, p1⟩ | ⟨t2, rfl, p1⟩
  · refine pw_iret dX11_empty_7 rfl ?_
    rotate_left
    refine oQ ?_ rfl (XA_rw hA (fW_O p2) p1) rfl
    unfold qEmpty
    rw [fstL_at t1 (fun j hj => decide_eq_false (t2 j hj)) (decide_eq_true t3)]
    rfl
  · refine pw_iret dX11_empty_7 rfl ?_
    rotate_left
    refine oQ ?_ rfl (XA_rw hA (fW_O p2) p1) rfl
    unfold qEmpty
    rw [fstL_none (fun j hj => decide_eq_false (t2 j hj))]
    rfl
def qLaws : qFn := fun _ _ _ _ _ _ sw => (nI (cntP (okL sw) 80), lwO (fstL (okL sw) 80))
def qLooks : qFn := fun _ _ _ _ rw _ sw => (if cntP (okL sw) 80 = 0 then -2 else bpI (lkG sw) (cntP (okL sw) 80 + 1) 10, if cntP (okL sw) 80 = 0 then rw else [lI (evp (cntP (okL sw) 80 + 1) (lkG sw) 10).1])
theorem XA_sw {I I' : pI} {J J' : pJ} {n : Nat} {pc b : Nat → Nat} {us : List (Nat → Nat)} {kp : Nat → Option (Nat → Nat)} {rw rw' : List Int64} {tx rt : List Nat} {hd sw sw' : List (Nat × Nat)} (h : XA I J (n, pc, b, us, kp, rw, tx, rt, hd, sw)) (hf : ∀ a, a ≠ 19 → a ≠ 64 → a ≠ 65 → a ≠ 66 → I' a = I a) (hN : XN I' J' rw') (hG : XG I' sw') : XA I' J' (n, pc, b, us, kp, rw', tx, rt, hd, sw') := by
  obtain ⟨a1, a2, a3, a4, a5, a6, a7, a8⟩ := h
  refine ⟨XM_fr a1 (fun a h1 h2 => hf a (by omega) (by omega) (by omega) (by omega)), XE_fr a2 (hf 9 (by omega) (by omega) (by omega) (by omega)) (hf 10 (by omega) (by omega) (by omega) (by omega)), hN, XT_fr a4 (hf 17 (by omega) (by omega) (by omega) (by omega)) (hf 18 (by omega) (by omega) (by omega) (by omega)), XU_fr a5 (fun a h1 h2 h3 h4 => hf a (by omega) (by omega) (by omega) (by omega)), XK_fr a6 (hf 24 (by omega) (by omega) (by omega) (by omega)) (hf 38 (by omega) (by omega) (by omega) (by omega)) (hf 39 (by omega) (by omega) (by omega) (by omega)), XH_fr a7 (hf 62 (by omega) (by omega) (by omega) (by omega)) (hf 63 (by omega) (by omega) (by omega) (by omega)), hG⟩
set_option maxRecDepth 100000 in
set_option maxHeartbeats 2000000 in
theorem xo_laws {d : Nat} {s : aSt} {I : pI} {J : pJ} (hA : XA I J s) (hW : WA s) : PC SX (d + 8) yX11_laws cX11_laws 1 (some .int) [.ref 0] (I) (J) (RX) (oP (qOp qLaws s)) := by
  refine PC.of [some (.ref 0)] rfl rfl (Nat.le_of_ble_eq_true rfl) ?_
  obtain ⟨n, pc, b, us, kp, rw, tx, rt, hd, sw⟩ := s
  obtain ⟨aM, aE, aN, aT, aU, aK, aH, aG⟩ := id hA
  refine pw_aload_n 1 rfl dX11_laws_0 rfl ?_
  refine pw_getR 4 rfl dX11_laws_1 fX11_84 (by first | rfl | assumption | exact rowS hh | exact mtS hm | exact ruS hr | exact mtA1 hm | exact mtA2 hm | exact mtA3 hm | exact mtA4 hm | exact mtA5 hm | exact mtA6 hm | exact mtA7 hm | exact ruA1 hr | exact ruA2 hr | exact ruA3 hr) rfl (by first | rfl | assumption | exact mtR0 hm | exact mtR1 hm | exact mtR2 hm | exact mtR3 hm | exact mtR4 hm | exact mtR5 hm | exact mtR6 hm | exact ruR0 hr | exact ruR1 hr | exact ruR3 hr) ?_
  refine pw_callV (as := []) 7 rfl dX11_laws_4 mX11_315 vX8_fittingLaws (x_fittingLaws (d := d + 3) aG) (by first | rfl | assumption | exact rowS hh | exact mtS hm | exact ruS hr | exact mtA1 hm | exact mtA2 hm | exact mtA3 hm | exact mtA4 hm | exact mtA5 hm | exact mtA6 hm | exact mtA7 hm | exact ruA1 hr | exact ruA2 hr | exact ruA3 hr) rfl (by decide) ⟨rfl, by decide, by decide, show (parseMethodDescriptor yX8_fittingLaws.desc).map (fun d => d.parameters.length) = some 0 by decide +kernel⟩ (by omega) (by decide) (Nat.le_of_ble_eq_true rfl) rfl (fun r4 I4 J4 R4 c4 => ?_)
  obtain ⟨rfl, p1, p3, p2, rfl⟩ := c4
  rotate_left
  refine pw_iret dX11_laws_7 rfl ?_
  rotate_left
  exact oQ rfl rfl (XA_sw hA (fun a h1 h2 h3 h4 => p2 a h1 h2 h4) p1 p3) rfl
set_option maxRecDepth 100000 in
set_option maxHeartbeats 2000000 in
theorem xo_looks {d : Nat} {s : aSt} {I : pI} {J : pJ} (hA : XA I J s) (hW : WA s) : PC SX (d + 8) yX11_looks cX11_looks 1 (some .int) [.ref 0] (I) (J) (RX) (oP (qOp qLooks s)) := by
  refine PC.of [some (.ref 0)] rfl rfl (Nat.le_of_ble_eq_true rfl) ?_
  obtain ⟨n, pc, b, us, kp, rw, tx, rt, hd, sw⟩ := s
  obtain ⟨aM, aE, aN, aT, aU, aK, aH, aG⟩ := id hA
  refine pw_aload_n 1 rfl dX11_looks_0 rfl ?_
  refine pw_getR 4 rfl dX11_looks_1 fX11_84 (by first | rfl | assumption | exact rowS hh | exact mtS hm | exact ruS hr | exact mtA1 hm | exact mtA2 hm | exact mtA3 hm | exact mtA4 hm | exact mtA5 hm | exact mtA6 hm | exact mtA7 hm | exact ruA1 hr | exact ruA2 hr | exact ruA3 hr) rfl (by first | rfl | assumption | exact mtR0 hm | exact mtR1 hm | exact mtR2 hm | exact mtR3 hm | exact mtR4 hm | exact mtR5 hm | exact mtR6 hm | exact ruR0 hr | exact ruR1 hr | exact ruR3 hr) ?_
  refine pw_callV (as := []) 7 rfl dX11_looks_4 mX11_318 vX8_bestPace (x_bestPace (d := d + 3) aG aN) (by first | rfl | assumption | exact rowS hh | exact mtS hm | exact ruS hr | exact mtA1 hm | exact mtA2 hm | exact mtA3 hm | exact mtA4 hm | exact mtA5 hm | exact mtA6 hm | exact mtA7 hm | exact ruA1 hr | exact ruA2 hr | exact ruA3 hr) rfl (by decide) ⟨rfl, by decide, by decide, show (parseMethodDescriptor yX8_bestPace.desc).map (fun d => d.parameters.length) = some 0 by decide +kernel⟩ (by omega) (by decide) (Nat.le_of_ble_eq_true rfl) rfl (fun r4 I4 J4 R4 c4 => ?_)
  obtain ⟨rfl, p1, p3, p2, rfl⟩ := c4
  rotate_left
  refine pw_iret dX11_looks_7 rfl ?_
  rotate_left
  exact oQ rfl rfl (XA_sw hA (fun a h1 h2 h3 h4 => p2 a h1 h2 h4) p1 p3) rfl
def oSaw (w v : Int32) : aSt → Int32 × aSt
  | (n, pc, b, us, kp, rw, tx, rt, hd, sw) => ((aSee sw w v).1, (n, pc, b, us, kp, rw, tx, rt, hd, (aSee sw w v).2))
def oDenies : aSt → Int32 × aSt
  | (n, pc, b, us, kp, rw, tx, rt, hd, sw) => (nI sw.length, (n, pc, b, us, kp, rw, tx, rt, hd, []))
def oHeard (w v : Int32) : aSt → Int32 × aSt
  | (n, pc, b, us, kp, rw, tx, rt, hd, sw) => ((aHear hd w v).1, (n, pc, b, us, kp, rw, tx, rt, (aHear hd w v).2, sw))
def oForget : aSt → Int32 × aSt
  | (n, pc, b, us, kp, rw, tx, rt, hd, sw) => (nI hd.length, (n, pc, b, us, kp, rw, tx, rt, [], sw))
def oSign (v : Int32) : aSt → Int32 × aSt
  | (n, pc, b, us, kp, rw, tx, rt, hd, sw) => ((aSign tx v).1, (n, pc, b, us, kp, rw, (aSign tx v).2, rt, hd, sw))
def oEnd (v : Int32) : aSt → Int32 × aSt
  | (n, pc, b, us, kp, rw, tx, rt, hd, sw) => ((aEnd tx v).1, (n, pc, b, us, kp, rw, (aEnd tx v).2, rt, hd, sw))
set_option maxRecDepth 100000 in
set_option maxHeartbeats 2000000 in
theorem xo_saw {d : Nat} {s : aSt} {I : pI} {J : pJ} (hA : XA I J s) (w v : Int32) : PC SX (d + 8) yX11_saw cX11_saw 3 (some .int) [.ref 0, .int w, .int v] (I) (J) (RX) (oP (oSaw w v s)) := by
  refine PC.of [some (.ref 0), some (.int w), some (.int v)] rfl rfl (Nat.le_of_ble_eq_true rfl) ?_
  obtain ⟨n, pc, b, us, kp, rw, tx, rt, hd, sw⟩ := s
  obtain ⟨aM, aE, aN, aT, aU, aK, aH, aG⟩ := id hA
  refine pw_aload_n 1 rfl dX11_saw_0 rfl ?_
  refine pw_getR 4 rfl dX11_saw_1 fX11_84 (by first | rfl | assumption | exact rowS hh | exact mtS hm | exact ruS hr | exact mtA1 hm | exact mtA2 hm | exact mtA3 hm | exact mtA4 hm | exact mtA5 hm | exact mtA6 hm | exact mtA7 hm | exact ruA1 hr | exact ruA2 hr | exact ruA3 hr) rfl (by first | rfl | assumption | exact mtR0 hm | exact mtR1 hm | exact mtR2 hm | exact mtR3 hm | exact mtR4 hm | exact mtR5 hm | exact mtR6 hm | exact ruR0 hr | exact ruR1 hr | exact ruR3 hr) ?_
  refine pw_iload_n 5 rfl dX11_saw_4 rfl ?_
  refine pw_iload_n 6 rfl dX11_saw_5 rfl ?_
  refine pw_callV (as := [_, _]) 9 rfl dX11_saw_6 mX11_311 vX8_see (x_see (d := d + 6) aG w v) (by first | rfl | assumption | exact rowS hh | exact mtS hm | exact ruS hr | exact mtA1 hm | exact mtA2 hm | exact mtA3 hm | exact mtA4 hm | exact mtA5 hm | exact mtA6 hm | exact mtA7 hm | exact ruA1 hr | exact ruA2 hr | exact ruA3 hr) rfl (by decide) ⟨rfl, by decide, by decide, show (parseMethodDescriptor yX8_see.desc).map (fun d => d.parameters.length) = some 2 by decide +kernel⟩ (by omega) (by decide) (Nat.le_of_ble_eq_true rfl) rfl (fun r6 I6 J6 R6 c6 => ?_)
  obtain ⟨rfl, p1, p2, rfl, rfl⟩ := c6
  rotate_left
  refine pw_iret dX11_saw_9 rfl ?_
  rotate_left
  exact ⟨rfl, XA_sw hA (fun a h1 h2 h3 h4 => p2 a h2 h3) (XN_fr aN (p2 19 (by decide) (by decide))) p1, rfl⟩
set_option maxRecDepth 100000 in
set_option maxHeartbeats 2000000 in
theorem xo_denies {d : Nat} {s : aSt} {I : pI} {J : pJ} (hA : XA I J s) : PC SX (d + 8) yX11_denies cX11_denies 1 (some .int) [.ref 0] (I) (J) (RX) (oP (oDenies s)) := by
  refine PC.of [some (.ref 0)] rfl rfl (Nat.le_of_ble_eq_true rfl) ?_
  obtain ⟨n, pc, b, us, kp, rw, tx, rt, hd, sw⟩ := s
  obtain ⟨aM, aE, aN, aT, aU, aK, aH, aG⟩ := id hA
  refine pw_aload_n 1 rfl dX11_denies_0 rfl ?_
  refine pw_getR 4 rfl dX11_denies_1 fX11_84 (by first | rfl | assumption | exact rowS hh | exact mtS hm | exact ruS hr | exact mtA1 hm | exact mtA2 hm | exact mtA3 hm | exact mtA4 hm | exact mtA5 hm | exact mtA6 hm | exact mtA7 hm | exact ruA1 hr | exact ruA2 hr | exact ruA3 hr) rfl (by first | rfl | assumption | exact mtR0 hm | exact mtR1 hm | exact mtR2 hm | exact mtR3 hm | exact mtR4 hm | exact mtR5 hm | exact mtR6 hm | exact ruR0 hr | exact ruR1 hr | exact ruR3 hr) ?_
  refine pw_callV (as := []) 7 rfl dX11_denies_4 mX11_314 vX8_drop (x_dropS (d := d + 7) aG) (by first | rfl | assumption | exact rowS hh | exact mtS hm | exact ruS hr | exact mtA1 hm | exact mtA2 hm | exact mtA3 hm | exact mtA4 hm | exact mtA5 hm | exact mtA6 hm | exact mtA7 hm | exact ruA1 hr | exact ruA2 hr | exact ruA3 hr) rfl (by decide) ⟨rfl, by decide, by decide, show (parseMethodDescriptor yX8_drop.desc).map (fun d => d.parameters.length) = some 0 by decide +kernel⟩ (by omega) (by decide) (Nat.le_of_ble_eq_true rfl) rfl (fun r4 I4 J4 R4 c4 => ?_)
  obtain ⟨rfl, p1, p2, rfl, rfl⟩ := c4
  rotate_left
  refine pw_iret dX11_denies_7 rfl ?_
  rotate_left
  exact ⟨rfl, XA_sw hA (fun a h1 h2 h3 h4 => p2 a h2) (XN_fr aN (p2 19 (by decide))) p1, rfl⟩
set_option maxRecDepth 100000 in
set_option maxHeartbeats 2000000 in
theorem xo_heard {d : Nat} {s : aSt} {I : pI} {J : pJ} (hA : XA I J s) (w v : Int32) : PC SX (d + 8) yX11_heard cX11_heard 3 (some .int) [.ref 0, .int w, .int v] (I) (J) (RX) (oP (oHeard w v s)) := by
  refine PC.of [some (.ref 0), some (.int w), some (.int v)] rfl rfl (Nat.le_of_ble_eq_true rfl) ?_
  obtain ⟨n, pc, b, us, kp, rw, tx, rt, hd, sw⟩ := s
  obtain ⟨a1, a2, a3, a4, a5, a6, a7, a8⟩ := id hA
  refine pw_aload_n 1 rfl dX11_heard_0 rfl ?_
  refine pw_getR 4 rfl dX11_heard_1 fX11_75 (by first | rfl | assumption | exact rowS hh | exact mtS hm | exact ruS hr | exact mtA1 hm | exact mtA2 hm | exact mtA3 hm | exact mtA4 hm | exact mtA5 hm | exact mtA6 hm | exact mtA7 hm | exact ruA1 hr | exact ruA2 hr | exact ruA3 hr) rfl (by first | rfl | assumption | exact mtR0 hm | exact mtR1 hm | exact mtR2 hm | exact mtR3 hm | exact mtR4 hm | exact mtR5 hm | exact mtR6 hm | exact ruR0 hr | exact ruR1 hr | exact ruR3 hr) ?_
  refine pw_iload_n 5 rfl dX11_heard_4 rfl ?_
  refine pw_iload_n 6 rfl dX11_heard_5 rfl ?_
  refine pw_callV (as := [_, _]) 9 rfl dX11_heard_6 mX11_299 vX7_hear (x_hear (d := d + 6) a7 w v) (by first | rfl | assumption | exact rowS hh | exact mtS hm | exact ruS hr | exact mtA1 hm | exact mtA2 hm | exact mtA3 hm | exact mtA4 hm | exact mtA5 hm | exact mtA6 hm | exact mtA7 hm | exact ruA1 hr | exact ruA2 hr | exact ruA3 hr) rfl (by decide) ⟨rfl, by decide, by decide, show (parseMethodDescriptor yX7_hear.desc).map (fun d => d.parameters.length) = some 2 by decide +kernel⟩ (by omega) (by decide) (Nat.le_of_ble_eq_true rfl) rfl (fun r6 I6 J6 R6 c6 => ?_)
  obtain ⟨rfl, p1, p2, rfl, rfl⟩ := c6
  rotate_left
  refine pw_iret dX11_heard_9 rfl ?_
  rotate_left
  exact ⟨rfl, ⟨XM_fr a1 (fun a h1 h2 => p2 a (by omega) (by omega)), XE_fr a2 (p2 9 (by decide) (by decide)) (p2 10 (by decide) (by decide)), XN_fr a3 (p2 19 (by decide) (by decide)), XT_fr a4 (p2 17 (by decide) (by decide)) (p2 18 (by decide) (by decide)), XU_fr a5 (fun a h1 h2 h3 h4 => p2 a (by omega) (by omega)), XK_fr a6 (p2 24 (by decide) (by decide)) (p2 38 (by decide) (by decide)) (p2 39 (by decide) (by decide)), p1, XG_fr a8 (by rw [p2 64 (by decide) (by decide)]) (p2 65 (by decide) (by decide))⟩, rfl⟩
set_option maxRecDepth 100000 in
set_option maxHeartbeats 2000000 in
theorem xo_forget {d : Nat} {s : aSt} {I : pI} {J : pJ} (hA : XA I J s) : PC SX (d + 8) yX11_forget cX11_forget 1 (some .int) [.ref 0] (I) (J) (RX) (oP (oForget s)) := by
  refine PC.of [some (.ref 0)] rfl rfl (Nat.le_of_ble_eq_true rfl) ?_
  obtain ⟨n, pc, b, us, kp, rw, tx, rt, hd, sw⟩ := s
  obtain ⟨a1, a2, a3, a4, a5, a6, a7, a8⟩ := id hA
  refine pw_aload_n 1 rfl dX11_forget_0 rfl ?_
  refine pw_getR 4 rfl dX11_forget_1 fX11_75 (by first | rfl | assumption | exact rowS hh | exact mtS hm | exact ruS hr | exact mtA1 hm | exact mtA2 hm | exact mtA3 hm | exact mtA4 hm | exact mtA5 hm | exact mtA6 hm | exact mtA7 hm | exact ruA1 hr | exact ruA2 hr | exact ruA3 hr) rfl (by first | rfl | assumption | exact mtR0 hm | exact mtR1 hm | exact mtR2 hm | exact mtR3 hm | exact mtR4 hm | exact mtR5 hm | exact mtR6 hm | exact ruR0 hr | exact ruR1 hr | exact ruR3 hr) ?_
  refine pw_callV (as := []) 7 rfl dX11_forget_4 mX11_302 vX7_drop (x_dropR (d := d + 7) a7) (by first | rfl | assumption | exact rowS hh | exact mtS hm | exact ruS hr | exact mtA1 hm | exact mtA2 hm | exact mtA3 hm | exact mtA4 hm | exact mtA5 hm | exact mtA6 hm | exact mtA7 hm | exact ruA1 hr | exact ruA2 hr | exact ruA3 hr) rfl (by decide) ⟨rfl, by decide, by decide, show (parseMethodDescriptor yX7_drop.desc).map (fun d => d.parameters.length) = some 0 by decide +kernel⟩ (by omega) (by decide) (Nat.le_of_ble_eq_true rfl) rfl (fun r4 I4 J4 R4 c4 => ?_)
  obtain ⟨rfl, p1, p2, rfl, rfl⟩ := c4
  rotate_left
  refine pw_iret dX11_forget_7 rfl ?_
  rotate_left
  exact ⟨rfl, ⟨XM_fr a1 (fun a h1 h2 => p2 a (by omega)), XE_fr a2 (p2 9 (by decide)) (p2 10 (by decide)), XN_fr a3 (p2 19 (by decide)), XT_fr a4 (p2 17 (by decide)) (p2 18 (by decide)), XU_fr a5 (fun a h1 h2 h3 h4 => p2 a (by omega)), XK_fr a6 (p2 24 (by decide)) (p2 38 (by decide)) (p2 39 (by decide)), p1, XG_fr a8 (by rw [p2 64 (by decide)]) (p2 65 (by decide))⟩, rfl⟩
theorem XA_tx {I I' : pI} {J : pJ} {n : Nat} {pc b : Nat → Nat} {us : List (Nat → Nat)} {kp : Nat → Option (Nat → Nat)} {rw : List Int64} {tx tx' rt : List Nat} {hd sw : List (Nat × Nat)} (h : XA I J (n, pc, b, us, kp, rw, tx, rt, hd, sw)) (p2 : ∀ a, a ≠ 17 → a ≠ 18 → I' a = I a) (p1 : XT I' tx') : XA I' J (n, pc, b, us, kp, rw, tx', rt, hd, sw) := by
  obtain ⟨a1, a2, a3, a4, a5, a6, a7, a8⟩ := h
  exact ⟨XM_fr a1 (fun a h1 h2 => p2 a (by omega) (by omega)), XE_fr a2 (p2 9 (by decide) (by decide)) (p2 10 (by decide) (by decide)), XN_fr a3 (p2 19 (by decide) (by decide)), p1, XU_fr a5 (fun a h1 h2 h3 h4 => p2 a (by omega) (by omega)), XK_fr a6 (p2 24 (by decide) (by decide)) (p2 38 (by decide) (by decide)) (p2 39 (by decide) (by decide)), XH_fr a7 (p2 62 (by decide) (by decide)) (p2 63 (by decide) (by decide)), XG_fr a8 (by rw [p2 64 (by decide) (by decide)]) (p2 65 (by decide) (by decide))⟩
set_option maxRecDepth 100000 in
set_option maxHeartbeats 2000000 in
theorem xo_sign {d : Nat} {s : aSt} {I : pI} {J : pJ} (hA : XA I J s) (v : Int32) : PC SX (d + 8) yX11_sign cX11_sign 2 (some .int) [.ref 0, .int v] (I) (J) (RX) (oP (oSign v s)) := by
  refine PC.of [some (.ref 0), some (.int v)] rfl rfl (Nat.le_of_ble_eq_true rfl) ?_
  obtain ⟨n, pc, b, us, kp, rw, tx, rt, hd, sw⟩ := s
  obtain ⟨a1, a2, a3, a4, a5, a6, a7, a8⟩ := id hA
  refine pw_aload_n 1 rfl dX11_sign_0 rfl ?_
  refine pw_getR 4 rfl dX11_sign_1 fX11_29 (by first | rfl | assumption | exact rowS hh | exact mtS hm | exact ruS hr | exact mtA1 hm | exact mtA2 hm | exact mtA3 hm | exact mtA4 hm | exact mtA5 hm | exact mtA6 hm | exact mtA7 hm | exact ruA1 hr | exact ruA2 hr | exact ruA3 hr) rfl (by first | rfl | assumption | exact mtR0 hm | exact mtR1 hm | exact mtR2 hm | exact mtR3 hm | exact mtR4 hm | exact mtR5 hm | exact mtR6 hm | exact ruR0 hr | exact ruR1 hr | exact ruR3 hr) ?_
  refine pw_iload_n 5 rfl dX11_sign_4 rfl ?_
  refine pw_callV (as := [_]) 8 rfl dX11_sign_5 mX11_95 vX10_addFour (x_addFour (d := d + 7) a4 v) (by first | rfl | assumption | exact rowS hh | exact mtS hm | exact ruS hr | exact mtA1 hm | exact mtA2 hm | exact mtA3 hm | exact mtA4 hm | exact mtA5 hm | exact mtA6 hm | exact mtA7 hm | exact ruA1 hr | exact ruA2 hr | exact ruA3 hr) rfl (by decide) ⟨rfl, by decide, by decide, show (parseMethodDescriptor yX10_addFour.desc).map (fun d => d.parameters.length) = some 1 by decide +kernel⟩ (by omega) (by decide) (Nat.le_of_ble_eq_true rfl) rfl (fun r5 I5 J5 R5 c5 => ?_)
  obtain ⟨rfl, p1, p2, rfl, rfl⟩ := c5
  rotate_left
  refine pw_iret dX11_sign_8 rfl ?_
  rotate_left
  exact ⟨rfl, XA_tx hA p2 p1, rfl⟩
set_option maxRecDepth 100000 in
set_option maxHeartbeats 2000000 in
theorem xo_end {d : Nat} {s : aSt} {I : pI} {J : pJ} (hA : XA I J s) (v : Int32) : PC SX (d + 8) yX11_end cX11_end 2 (some .boolean) [.ref 0, .int v] (I) (J) (RX) (oP (oEnd v s)) := by
  refine PC.of [some (.ref 0), some (.int v)] rfl rfl (Nat.le_of_ble_eq_true rfl) ?_
  obtain ⟨n, pc, b, us, kp, rw, tx, rt, hd, sw⟩ := s
  obtain ⟨a1, a2, a3, a4, a5, a6, a7, a8⟩ := id hA
  have hn : narrow .boolean (.int (aEnd tx v).1) = .int (aEnd tx v).1 := by
    rcases e : inOf 0 tx.length v with _ | k
    · rw [aEnd_n e]; show narrow .boolean (.int (nI 0)) = .int (nI 0); rfl
    · rw [aEnd_s e]; show narrow .boolean (.int (nI 1)) = .int (nI 1); rfl
  refine pw_aload_n 1 rfl dX11_end_0 rfl ?_
  refine pw_getR 4 rfl dX11_end_1 fX11_29 (by first | rfl | assumption | exact rowS hh | exact mtS hm | exact ruS hr | exact mtA1 hm | exact mtA2 hm | exact mtA3 hm | exact mtA4 hm | exact mtA5 hm | exact mtA6 hm | exact mtA7 hm | exact ruA1 hr | exact ruA2 hr | exact ruA3 hr) rfl (by first | rfl | assumption | exact mtR0 hm | exact mtR1 hm | exact mtR2 hm | exact mtR3 hm | exact mtR4 hm | exact mtR5 hm | exact mtR6 hm | exact ruR0 hr | exact ruR1 hr | exact ruR3 hr) ?_
  refine pw_iload_n 5 rfl dX11_end_4 rfl ?_
  refine pw_callV (as := [_]) 8 rfl dX11_end_5 mX11_99 vX10_cutTo (x_cutTo (d := d + 7) a4 v) (by first | rfl | assumption | exact rowS hh | exact mtS hm | exact ruS hr | exact mtA1 hm | exact mtA2 hm | exact mtA3 hm | exact mtA4 hm | exact mtA5 hm | exact mtA6 hm | exact mtA7 hm | exact ruA1 hr | exact ruA2 hr | exact ruA3 hr) rfl (by decide) ⟨rfl, by decide, by decide, show (parseMethodDescriptor yX10_cutTo.desc).map (fun d => d.parameters.length) = some 1 by decide +kernel⟩ (by omega) (by decide) (Nat.le_of_ble_eq_true rfl) rfl (fun r5 I5 J5 R5 c5 => ?_)
  obtain ⟨rfl, p1, p2, rfl, rfl⟩ := c5
  rotate_left
  refine pw_iret dX11_end_8 hn ?_
  rotate_left
  exact ⟨rfl, XA_tx hA (fun a h1 h2 => p2 a h1) p1, rfl⟩
def qStrays (w v : Int32) : qFn := fun _ _ b _ rw _ _ => inM (inOf 0 (b 28) w) rw (fun h => inM (inOf 0 10 v) rw (fun p => (nI 0, stO (euc 40 (stU p (b 28) h (b 28)) (stL p (b 28) (b 28))) (stU p (b 28) h (b 28)) (stL p (b 28) (b 28)))))
set_option maxRecDepth 100000 in
set_option maxHeartbeats 2000000 in
theorem xo_strays {d : Nat} {s : aSt} {I : pI} {J : pJ} (hA : XA I J s) (hW : WA s) (w v : Int32) : PC SX (d + 8) yX11_strays cX11_strays 3 (some .int) [.ref 0, .int w, .int v] (I) (J) (RX) (oP (qOp (qStrays w v) s)) := by
  refine PC.of [some (.ref 0), some (.int w), some (.int v)] rfl rfl (Nat.le_of_ble_eq_true rfl) ?_
  obtain ⟨n, pc, b, us, kp, rw, tx, rt, hd, sw⟩ := s
  obtain ⟨aM, aE, aN, aT, aU, aK, aH, aG⟩ := id hA
  obtain ⟨aW, -, -⟩ := id hW
  have ht := aW.1.2.1
  have i8 : I 1 8 = nI (b 28) := aM.2.2.1
  rcases inOf_cases (lo := 0) (hi := b 28) (by omega) w (by omega) with ⟨h, g1, g2, rfl, hi⟩ | ⟨hi, ho⟩
  · rcases inOf_cases (lo := 0) (hi := 10) (by decide) v (by decide) with ⟨p, k1, k2, rfl, hj⟩ | ⟨hj, hp⟩
    · refine pw_iload_n 1 rfl dX11_strays_0 rfl ?_
      refine pw_iconst (v := nI 0) 2 rfl dX11_strays_1 rfl ?_
      refine pw_aload_n 3 rfl dX11_strays_2 rfl ?_
      refine pw_getR 6 rfl dX11_strays_3 fX11_10 (by first | rfl | assumption | exact rowS hh | exact mtS hm | exact ruS hr | exact mtA1 hm | exact mtA2 hm | exact mtA3 hm | exact mtA4 hm | exact mtA5 hm | exact mtA6 hm | exact mtA7 hm | exact ruA1 hr | exact ruA2 hr | exact ruA3 hr) rfl (by first | rfl | assumption | exact mtR0 hm | exact mtR1 hm | exact mtR2 hm | exact mtR3 hm | exact mtR4 hm | exact mtR5 hm | exact mtR6 hm | exact ruR0 hr | exact ruR1 hr | exact ruR3 hr) ?_
      refine pw_getI 9 rfl dX11_strays_6 fX11_321 (by first | rfl | assumption | exact rowS hh | exact mtS hm | exact ruS hr | exact mtA1 hm | exact mtA2 hm | exact mtA3 hm | exact mtA4 hm | exact mtA5 hm | exact mtA6 hm | exact mtA7 hm | exact ruA1 hr | exact ruA2 hr | exact ruA3 hr) rfl ?_
      rotate_left
      rw [i8]
      refine pw_callSP (as := [_, _, _]) 12 rfl dX11_strays_9 mX11_174 sX11_outside (x_outside (d := d) _ _ _) ⟨rfl, by decide, by decide, show (parseMethodDescriptor yX11_outside.desc).map (fun d => d.parameters.length) = some 3 by decide +kernel⟩ (by omega) (by decide) (Nat.le_of_ble_eq_true rfl) rfl ?_
      refine pw_if_ne (tgt := 25) 15 rfl dX11_strays_12 rfl (fun h12 => absurd (by rw [out_in g1 g2 (by omega)]; decide) h12) (fun h12 => ?_)
      refine pw_iload_n 16 rfl dX11_strays_15 rfl ?_
      refine pw_iconst (v := nI 0) 17 rfl dX11_strays_16 rfl ?_
      refine pw_bipush (v := nI 10) 19 rfl dX11_strays_17 rfl ?_
      refine pw_callSP (as := [_, _, _]) 22 rfl dX11_strays_19 mX11_174 sX11_outside (x_outside (d := d) _ _ _) ⟨rfl, by decide, by decide, show (parseMethodDescriptor yX11_outside.desc).map (fun d => d.parameters.length) = some 3 by decide +kernel⟩ (by omega) (by decide) (Nat.le_of_ble_eq_true rfl) rfl ?_
      refine pw_if_eq (tgt := 27) 25 rfl dX11_strays_22 rfl (fun h22 => ?_) (fun h22 => absurd (by rw [out_in k1 k2 (by decide)]; rfl) h22)
      refine pw_aload_n 28 rfl dX11_strays_27 rfl ?_
      refine pw_getR 31 rfl dX11_strays_28 fX11_91 (by first | rfl | assumption | exact rowS hh | exact mtS hm | exact ruS hr | exact mtA1 hm | exact mtA2 hm | exact mtA3 hm | exact mtA4 hm | exact mtA5 hm | exact mtA6 hm | exact mtA7 hm | exact ruA1 hr | exact ruA2 hr | exact ruA3 hr) rfl (by first | rfl | assumption | exact mtR0 hm | exact mtR1 hm | exact mtR2 hm | exact mtR3 hm | exact mtR4 hm | exact mtR5 hm | exact mtR6 hm | exact ruR0 hr | exact ruR1 hr | exact ruR3 hr) ?_
      refine pw_iload_n 32 rfl dX11_strays_31 rfl ?_
      refine pw_iload_n 33 rfl dX11_strays_32 rfl ?_
      refine pw_aload_n 34 rfl dX11_strays_33 rfl ?_
      refine pw_getR 37 rfl dX11_strays_34 fX11_10 (by first | rfl | assumption | exact rowS hh | exact mtS hm | exact ruS hr | exact mtA1 hm | exact mtA2 hm | exact mtA3 hm | exact mtA4 hm | exact mtA5 hm | exact mtA6 hm | exact mtA7 hm | exact ruA1 hr | exact ruA2 hr | exact ruA3 hr) rfl (by first | rfl | assumption | exact mtR0 hm | exact mtR1 hm | exact mtR2 hm | exact mtR3 hm | exact mtR4 hm | exact mtR5 hm | exact mtR6 hm | exact ruR0 hr | exact ruR1 hr | exact ruR3 hr) ?_
      refine pw_getI 40 rfl dX11_strays_37 fX11_321 (by first | rfl | assumption | exact rowS hh | exact mtS hm | exact ruS hr | exact mtA1 hm | exact mtA2 hm | exact mtA3 hm | exact mtA4 hm | exact mtA5 hm | exact mtA6 hm | exact mtA7 hm | exact ruA1 hr | exact ruA2 hr | exact ruA3 hr) rfl ?_
      rotate_left
      rw [i8]
      refine pw_callV (as := [_, _, _]) 43 rfl dX11_strays_40 mX11_324 vX0_chanceOfStile (x_chance (d := d + 4) (show b 28 < 10 by omega) ht.1 (show h < 10 by omega) (show p < 11 by omega)) (by first | rfl | assumption | exact rowS hh | exact mtS hm | exact ruS hr | exact mtA1 hm | exact mtA2 hm | exact mtA3 hm | exact mtA4 hm | exact mtA5 hm | exact mtA6 hm | exact mtA7 hm | exact ruA1 hr | exact ruA2 hr | exact ruA3 hr) rfl (by decide) ⟨rfl, by decide, by decide, show (parseMethodDescriptor yX0_chanceOfStile.desc).map (fun d => d.parameters.length) = some 3 by decide +kernel⟩ (by omega) (by decide) (Nat.le_of_ble_eq_true rfl) rfl (fun r40 I40 J40 R40 c40 => ?_)
      obtain ⟨rfl, p1, p2, rfl⟩ := c40
      rotate_left
      refine pw_iret dX11_strays_43 rfl ?_
      rotate_left
      refine oQ ?_ rfl (XA_rw hA (fW_19 p2) p1) rfl
      unfold qStrays; rw [hi, hj]; rfl
    · refine pw_iload_n 1 rfl dX11_strays_0 rfl ?_
      refine pw_iconst (v := nI 0) 2 rfl dX11_strays_1 rfl ?_
      refine pw_aload_n 3 rfl dX11_strays_2 rfl ?_
      refine pw_getR 6 rfl dX11_strays_3 fX11_10 (by first | rfl | assumption | exact rowS hh | exact mtS hm | exact ruS hr | exact mtA1 hm | exact mtA2 hm | exact mtA3 hm | exact mtA4 hm | exact mtA5 hm | exact mtA6 hm | exact mtA7 hm | exact ruA1 hr | exact ruA2 hr | exact ruA3 hr) rfl (by first | rfl | assumption | exact mtR0 hm | exact mtR1 hm | exact mtR2 hm | exact mtR3 hm | exact mtR4 hm | exact mtR5 hm | exact mtR6 hm | exact ruR0 hr | exact ruR1 hr | exact ruR3 hr) ?_
      refine pw_getI 9 rfl dX11_strays_6 fX11_321 (by first | rfl | assumption | exact rowS hh | exact mtS hm | exact ruS hr | exact mtA1 hm | exact mtA2 hm | exact mtA3 hm | exact mtA4 hm | exact mtA5 hm | exact mtA6 hm | exact mtA7 hm | exact ruA1 hr | exact ruA2 hr | exact ruA3 hr) rfl ?_
      rotate_left
      rw [i8]
      refine pw_callSP (as := [_, _, _]) 12 rfl dX11_strays_9 mX11_174 sX11_outside (x_outside (d := d) _ _ _) ⟨rfl, by decide, by decide, show (parseMethodDescriptor yX11_outside.desc).map (fun d => d.parameters.length) = some 3 by decide +kernel⟩ (by omega) (by decide) (Nat.le_of_ble_eq_true rfl) rfl ?_
      refine pw_if_ne (tgt := 25) 15 rfl dX11_strays_12 rfl (fun h12 => absurd (by rw [out_in g1 g2 (by omega)]; decide) h12) (fun h12 => ?_)
      refine pw_iload_n 16 rfl dX11_strays_15 rfl ?_
      refine pw_iconst (v := nI 0) 17 rfl dX11_strays_16 rfl ?_
      refine pw_bipush (v := nI 10) 19 rfl dX11_strays_17 rfl ?_
      refine pw_callSP (as := [_, _, _]) 22 rfl dX11_strays_19 mX11_174 sX11_outside (x_outside (d := d) _ _ _) ⟨rfl, by decide, by decide, show (parseMethodDescriptor yX11_outside.desc).map (fun d => d.parameters.length) = some 3 by decide +kernel⟩ (by omega) (by decide) (Nat.le_of_ble_eq_true rfl) rfl ?_
      refine pw_if_eq (tgt := 27) 25 rfl dX11_strays_22 rfl (fun h22 => absurd h22 (by rw [outV_y hp]; decide)) (fun h22 => ?_)
      refine pw_iconst (v := -1) 26 rfl dX11_strays_25 rfl ?_
      refine pw_iret dX11_strays_26 rfl ?_
      rotate_left
      refine oQ ?_ rfl hA rfl
      unfold qStrays; rw [hi, hj]; rfl
  · refine pw_iload_n 1 rfl dX11_strays_0 rfl ?_
    refine pw_iconst (v := nI 0) 2 rfl dX11_strays_1 rfl ?_
    refine pw_aload_n 3 rfl dX11_strays_2 rfl ?_
    refine pw_getR 6 rfl dX11_strays_3 fX11_10 (by first | rfl | assumption | exact rowS hh | exact mtS hm | exact ruS hr | exact mtA1 hm | exact mtA2 hm | exact mtA3 hm | exact mtA4 hm | exact mtA5 hm | exact mtA6 hm | exact mtA7 hm | exact ruA1 hr | exact ruA2 hr | exact ruA3 hr) rfl (by first | rfl | assumption | exact mtR0 hm | exact mtR1 hm | exact mtR2 hm | exact mtR3 hm | exact mtR4 hm | exact mtR5 hm | exact mtR6 hm | exact ruR0 hr | exact ruR1 hr | exact ruR3 hr) ?_
    refine pw_getI 9 rfl dX11_strays_6 fX11_321 (by first | rfl | assumption | exact rowS hh | exact mtS hm | exact ruS hr | exact mtA1 hm | exact mtA2 hm | exact mtA3 hm | exact mtA4 hm | exact mtA5 hm | exact mtA6 hm | exact mtA7 hm | exact ruA1 hr | exact ruA2 hr | exact ruA3 hr) rfl ?_
    rotate_left
    rw [i8]
    refine pw_callSP (as := [_, _, _]) 12 rfl dX11_strays_9 mX11_174 sX11_outside (x_outside (d := d) _ _ _) ⟨rfl, by decide, by decide, show (parseMethodDescriptor yX11_outside.desc).map (fun d => d.parameters.length) = some 3 by decide +kernel⟩ (by omega) (by decide) (Nat.le_of_ble_eq_true rfl) rfl ?_
    refine pw_if_ne (tgt := 25) 15 rfl dX11_strays_12 rfl (fun h12 => ?_) (fun h12 => absurd h12 (by rw [outV_y ho]; decide))
    refine pw_iconst (v := -1) 26 rfl dX11_strays_25 rfl ?_
    refine pw_iret dX11_strays_26 rfl ?_
    rotate_left
    refine oQ ?_ rfl hA rfl
    unfold qStrays; rw [hi]; rfl
def qBend (w v : Int32) : qFn := fun _ _ _ _ rw _ _ => inM (inOf 1 20 w) rw (fun a => inM (inOf 1 20 v) rw (fun c => (gGoV (gGo a c), gGoR (gGo a c))))
set_option maxRecDepth 100000 in
set_option maxHeartbeats 2000000 in
theorem xo_bend {d : Nat} {s : aSt} {I : pI} {J : pJ} (hA : XA I J s) (hW : WA s) (w v : Int32) : PC SX (d + 8) yX11_bend cX11_bend 3 (some .int) [.ref 0, .int w, .int v] (I) (J) (RX) (oP (qOp (qBend w v) s)) := by
  refine PC.of [some (.ref 0), some (.int w), some (.int v)] rfl rfl (Nat.le_of_ble_eq_true rfl) ?_
  obtain ⟨n, pc, b, us, kp, rw, tx, rt, hd, sw⟩ := s
  rcases inOf_cases (lo := 1) (hi := 20) (by decide) w (by decide) with ⟨h, g1, g2, rfl, hi⟩ | ⟨hi, ho⟩
  · rcases inOf_cases (lo := 1) (hi := 20) (by decide) v (by decide) with ⟨p, k1, k2, rfl, hj⟩ | ⟨hj, hp⟩
    · refine pw_iload_n 1 rfl dX11_bend_0 rfl ?_
      refine pw_iconst (v := nI 1) 2 rfl dX11_bend_1 rfl ?_
      refine pw_bipush (v := nI 20) 4 rfl dX11_bend_2 rfl ?_
      refine pw_callSP (as := [_, _, _]) 7 rfl dX11_bend_4 mX11_174 sX11_outside (x_outside (d := d) _ _ _) ⟨rfl, by decide, by decide, show (parseMethodDescriptor yX11_outside.desc).map (fun d => d.parameters.length) = some 3 by decide +kernel⟩ (by omega) (by decide) (Nat.le_of_ble_eq_true rfl) rfl ?_
      refine pw_if_ne (tgt := 20) 10 rfl dX11_bend_7 rfl (fun h7 => absurd (by rw [out_in g1 g2 (by omega)]; decide) h7) (fun h7 => ?_)
      refine pw_iload_n 11 rfl dX11_bend_10 rfl ?_
      refine pw_iconst (v := nI 1) 12 rfl dX11_bend_11 rfl ?_
      refine pw_bipush (v := nI 20) 14 rfl dX11_bend_12 rfl ?_
      refine pw_callSP (as := [_, _, _]) 17 rfl dX11_bend_14 mX11_174 sX11_outside (x_outside (d := d) _ _ _) ⟨rfl, by decide, by decide, show (parseMethodDescriptor yX11_outside.desc).map (fun d => d.parameters.length) = some 3 by decide +kernel⟩ (by omega) (by decide) (Nat.le_of_ble_eq_true rfl) rfl ?_
      refine pw_if_eq (tgt := 22) 20 rfl dX11_bend_17 rfl (fun h17 => ?_) (fun h17 => absurd (by rw [out_in k1 k2 (by decide)]; rfl) h17)
      refine pw_aload_n 23 rfl dX11_bend_22 rfl ?_
      refine pw_getR 26 rfl dX11_bend_23 fX11_91 (by first | rfl | assumption | exact rowS hh | exact mtS hm | exact ruS hr | exact mtA1 hm | exact mtA2 hm | exact mtA3 hm | exact mtA4 hm | exact mtA5 hm | exact mtA6 hm | exact mtA7 hm | exact ruA1 hr | exact ruA2 hr | exact ruA3 hr) rfl (by first | rfl | assumption | exact mtR0 hm | exact mtR1 hm | exact mtR2 hm | exact mtR3 hm | exact mtR4 hm | exact mtR5 hm | exact mtR6 hm | exact ruR0 hr | exact ruR1 hr | exact ruR3 hr) ?_
      refine pw_iload_n 27 rfl dX11_bend_26 rfl ?_
      refine pw_iload_n 28 rfl dX11_bend_27 rfl ?_
      refine pw_callV (as := [_, _]) 31 rfl dX11_bend_28 mX11_328 vX0_bestAtBend (x_bestAtBend (d := d + 4) g1 g2 k1 k2) (by first | rfl | assumption | exact rowS hh | exact mtS hm | exact ruS hr | exact mtA1 hm | exact mtA2 hm | exact mtA3 hm | exact mtA4 hm | exact mtA5 hm | exact mtA6 hm | exact mtA7 hm | exact ruA1 hr | exact ruA2 hr | exact ruA3 hr) rfl (by decide) ⟨rfl, by decide, by decide, show (parseMethodDescriptor yX0_bestAtBend.desc).map (fun d => d.parameters.length) = some 2 by decide +kernel⟩ (by omega) (by decide) (Nat.le_of_ble_eq_true rfl) rfl (fun r28 I28 J28 R28 c28 => ?_)
      obtain ⟨rfl, p1, p2, rfl⟩ := c28
      rotate_left
      refine pw_iret dX11_bend_31 rfl ?_
      rotate_left
      refine oQ ?_ rfl (XA_rw hA (fun a ha => p2 a (by omega) (by omega) (by omega)) p1) rfl
      unfold qBend; rw [hi, hj]; rfl
    · refine pw_iload_n 1 rfl dX11_bend_0 rfl ?_
      refine pw_iconst (v := nI 1) 2 rfl dX11_bend_1 rfl ?_
      refine pw_bipush (v := nI 20) 4 rfl dX11_bend_2 rfl ?_
      refine pw_callSP (as := [_, _, _]) 7 rfl dX11_bend_4 mX11_174 sX11_outside (x_outside (d := d) _ _ _) ⟨rfl, by decide, by decide, show (parseMethodDescriptor yX11_outside.desc).map (fun d => d.parameters.length) = some 3 by decide +kernel⟩ (by omega) (by decide) (Nat.le_of_ble_eq_true rfl) rfl ?_
      refine pw_if_ne (tgt := 20) 10 rfl dX11_bend_7 rfl (fun h7 => absurd (by rw [out_in g1 g2 (by omega)]; decide) h7) (fun h7 => ?_)
      refine pw_iload_n 11 rfl dX11_bend_10 rfl ?_
      refine pw_iconst (v := nI 1) 12 rfl dX11_bend_11 rfl ?_
      refine pw_bipush (v := nI 20) 14 rfl dX11_bend_12 rfl ?_
      refine pw_callSP (as := [_, _, _]) 17 rfl dX11_bend_14 mX11_174 sX11_outside (x_outside (d := d) _ _ _) ⟨rfl, by decide, by decide, show (parseMethodDescriptor yX11_outside.desc).map (fun d => d.parameters.length) = some 3 by decide +kernel⟩ (by omega) (by decide) (Nat.le_of_ble_eq_true rfl) rfl ?_
      refine pw_if_eq (tgt := 22) 20 rfl dX11_bend_17 rfl (fun h17 => absurd h17 (by rw [outV_y hp]; decide)) (fun h17 => ?_)
      refine pw_iconst (v := -1) 21 rfl dX11_bend_20 rfl ?_
      refine pw_iret dX11_bend_21 rfl ?_
      rotate_left
      refine oQ ?_ rfl hA rfl
      unfold qBend; rw [hi, hj]; rfl
  · refine pw_iload_n 1 rfl dX11_bend_0 rfl ?_
    refine pw_iconst (v := nI 1) 2 rfl dX11_bend_1 rfl ?_
    refine pw_bipush (v := nI 20) 4 rfl dX11_bend_2 rfl ?_
    refine pw_callSP (as := [_, _, _]) 7 rfl dX11_bend_4 mX11_174 sX11_outside (x_outside (d := d) _ _ _) ⟨rfl, by decide, by decide, show (parseMethodDescriptor yX11_outside.desc).map (fun d => d.parameters.length) = some 3 by decide +kernel⟩ (by omega) (by decide) (Nat.le_of_ble_eq_true rfl) rfl ?_
    refine pw_if_ne (tgt := 20) 10 rfl dX11_bend_7 rfl (fun h7 => ?_) (fun h7 => absurd h7 (by rw [outV_y ho]; decide))
    refine pw_iconst (v := -1) 21 rfl dX11_bend_20 rfl ?_
    refine pw_iret dX11_bend_21 rfl ?_
    rotate_left
    refine oQ ?_ rfl hA rfl
    unfold qBend; rw [hi]; rfl
def qYears (D : Int32 → Int32) (Q : Int32 → Nat) (x v : Int32) : qFn := fun n pc b E rw _ _ => inM (inOf 1 60 v) rw (fun N => (nI ((yrs D Q n pc E (x, b, 0) N).2.1 29), [lI (yrs D Q n pc E (x, b, 0) N).2.2, lI (onW n (yrs D Q n pc E (x, b, 0) N).2.1)]))
set_option maxRecDepth 100000 in
set_option maxHeartbeats 2000000 in
theorem xo_years {D : Int32 → Int32} {Q : Int32 → Nat} (hD : pDr D Q) {d : Nat} {s : aSt} {I : pI} {J : pJ} (hA : XA I J s) (hW : WA s) (w v : Int32) : PC SX (d + 9) yX11_years cX11_years 3 (some .int) [.ref 0, .int w, .int v] (I) (J) (RX) (oP (qOp (qYears D Q w v) s)) := by
  refine PC.of [some (.ref 0), some (.int w), some (.int v)] rfl rfl (Nat.le_of_ble_eq_true rfl) ?_
  obtain ⟨n, pc, b, us, kp, rw, tx, rt, hd, sw⟩ := s
  obtain ⟨aM, aE, aN, aT, aU, aK, aH, aG⟩ := id hA
  obtain ⟨aW, -, -⟩ := id hW
  rcases inOf_cases (lo := 1) (hi := 60) (by decide) v (by decide) with ⟨N, k1, k2, rfl, hj⟩ | ⟨hj, hp⟩
  · refine pw_iload_n 1 rfl dX11_years_0 rfl ?_
    refine pw_iconst (v := nI 1) 2 rfl dX11_years_1 rfl ?_
    refine pw_bipush (v := nI 60) 4 rfl dX11_years_2 rfl ?_
    refine pw_callSP (as := [_, _, _]) 7 rfl dX11_years_4 mX11_174 sX11_outside (x_outside (d := d) _ _ _) ⟨rfl, by decide, by decide, show (parseMethodDescriptor yX11_outside.desc).map (fun d => d.parameters.length) = some 3 by decide +kernel⟩ (by omega) (by decide) (Nat.le_of_ble_eq_true rfl) rfl ?_
    refine pw_if_eq (tgt := 14) 10 rfl dX11_years_7 rfl (fun h7 => ?_) (fun h7 => absurd (by rw [out_in k1 k2 (by decide)]; rfl) h7)
    refine pw_aload_n 15 rfl dX11_years_14 rfl ?_
    refine pw_getR 18 rfl dX11_years_15 fX11_59 (by first | rfl | assumption | exact rowS hh | exact mtS hm | exact ruS hr | exact mtA1 hm | exact mtA2 hm | exact mtA3 hm | exact mtA4 hm | exact mtA5 hm | exact mtA6 hm | exact mtA7 hm | exact ruA1 hr | exact ruA2 hr | exact ruA3 hr) rfl (by first | rfl | assumption | exact mtR0 hm | exact mtR1 hm | exact mtR2 hm | exact mtR3 hm | exact mtR4 hm | exact mtR5 hm | exact mtR6 hm | exact ruR0 hr | exact ruR1 hr | exact ruR3 hr) ?_
    refine pw_iload_n 19 rfl dX11_years_18 rfl ?_
    refine pw_iload_n 20 rfl dX11_years_19 rfl ?_
    refine pw_callV (as := [_, _]) 23 rfl dX11_years_20 mX11_338 vX5_drawnYears (x_drawnYears hD (d := d) aM aW.1 aE k2 w) (by first | rfl | assumption | exact rowS hh | exact mtS hm | exact ruS hr | exact mtA1 hm | exact mtA2 hm | exact mtA3 hm | exact mtA4 hm | exact mtA5 hm | exact mtA6 hm | exact mtA7 hm | exact ruA1 hr | exact ruA2 hr | exact ruA3 hr) rfl (by decide) ⟨rfl, by decide, by decide, show (parseMethodDescriptor yX5_drawnYears.desc).map (fun d => d.parameters.length) = some 2 by decide +kernel⟩ (by omega) (by decide) (Nat.le_of_ble_eq_true rfl) rfl (fun r20 I20 J20 R20 c20 => ?_)
    obtain ⟨rfl, p1, p2, rfl⟩ := c20
    rotate_left
    refine pw_iret dX11_years_23 rfl ?_
    rotate_left
    refine oQ ?_ rfl (XA_rw hA (fun a ha => p2 a (by omega) (by omega) (by omega)) p1) rfl
    unfold qYears; rw [hj]; rfl
  · refine pw_iload_n 1 rfl dX11_years_0 rfl ?_
    refine pw_iconst (v := nI 1) 2 rfl dX11_years_1 rfl ?_
    refine pw_bipush (v := nI 60) 4 rfl dX11_years_2 rfl ?_
    refine pw_callSP (as := [_, _, _]) 7 rfl dX11_years_4 mX11_174 sX11_outside (x_outside (d := d) _ _ _) ⟨rfl, by decide, by decide, show (parseMethodDescriptor yX11_outside.desc).map (fun d => d.parameters.length) = some 3 by decide +kernel⟩ (by omega) (by decide) (Nat.le_of_ble_eq_true rfl) rfl ?_
    refine pw_if_eq (tgt := 14) 10 rfl dX11_years_7 rfl (fun h7 => absurd h7 (by rw [outV_y hp]; decide)) (fun h7 => ?_)
    refine pw_iconst (v := -1) 11 rfl dX11_years_10 rfl ?_
    refine pw_goto (tgt := 23) dX11_years_11 rfl ?_
    refine pw_iret dX11_years_23 rfl ?_
    rotate_left
    refine oQ ?_ rfl hA rfl
    unfold qYears; rw [hj]; rfl
