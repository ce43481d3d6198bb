section LP
variable {p : Program} {l : Launch} {e : Env} {s : State} {m : MethodId} {args : Array Value} {below : List Frame} {meth : Method} {c : Code} {Q : State → Prop} {D : va_G} {cy : Nat → ClassId} {A : Nat → Prop}
variable {k n : Nat} {ws : va_W} {bS L it : Nat} {xs : Nat → Int32} {x1 x2 x3 : Nat}
theorem hd_lt (hL : L ≤ 3584) (hi : it ≤ 10000) : (Int32.ofNat L - 7 < nI it) = ((L : Int) - 7 < it) := by
  rw [nI_J, ← J_ofNat, show (7 : Int32) = J 7 from rfl, J_sub, J_lt (by omega) (by omega)]
theorem l_head (C : VC p s m args c cL_law_ RL 7 D cy A) (S : va_X bS L xs s s.heap ∧ bS < s.heap.size ∧ ¬ A bS ∧ L ≤ 3584) (hi : it ≤ 10000) (k1 : V p l e room_1 s m args below meth c Q 7 D A k n ws 2577 [(0, .ref bS), (1, .ref x1), (2, .ref x2), (3, .ref x3), (4, .int (nI it))] []) (k2 : it + 7 ≤ L → V p l e room_1 s m args below meth c Q 7 D A k n ws 40 [(0, .ref bS), (1, .ref x1), (2, .ref x2), (3, .ref x3), (4, .int (nI it))] [.int (xs it &&& 63)]) : V p l e room_1 s m args below meth c Q 7 D A k n ws 23 [(0, .ref bS), (1, .ref x1), (2, .ref x2), (3, .ref x3), (4, .int (nI it))] [] := by
  refine v_iload C dL_law__23 4 rfl ?_
  refine v_aload_n C dL_law__25 0 rfl rfl ?_
  refine v_sln C S.1 S.2.1 S.2.2.1 dL_law__26 ?_
  refine v_bipush (v := 7) C dL_law__27 (by decide) ?_
  refine v_isub C dL_law__29 ?_
  refine v_icmp_gt (tgt := 2577) C dL_law__30 (by decide) (fun _ => k1) (fun h => ?_)
  have hit : it + 7 ≤ L := by
    rw [hd_lt S.2.2.2 hi] at h
    omega
  refine v_aload_n C dL_law__33 0 rfl rfl ?_
  refine v_iload C dL_law__34 4 rfl ?_
  refine v_sld C S.1 S.2.1 S.2.2.1 (vp_in_nI (by omega) (by have := S.2.2.2; omega)) dL_law__36 ?_
  refine v_bipush (v := 63) C dL_law__37 (by decide) ?_
  refine v_iand C dL_law__39 ?_
  rw [nI_clamp (by have := S.2.2.2; omega)]
  exact k2 hit
theorem l_next (C : VC p s m args c cL_law_ RL 7 D cy A) (kk : V p l e room_1 s m args below meth c Q 7 D A k n ws 23 [(0, .ref bS), (1, .ref x1), (2, .ref x2), (3, .ref x3), (4, .int (nI (it + 7)))] []) : V p l e room_1 s m args below meth c Q 7 D A k n ws 2571 [(0, .ref bS), (1, .ref x1), (2, .ref x2), (3, .ref x3), (4, .int (nI it))] [] := by
  refine v_iinc (v := nI (it + 7)) (lv' := [(4, .int (nI (it + 7))), (0, .ref bS), (1, .ref x1), (2, .ref x2), (3, .ref x3)]) C dL_law__2571 4 rfl (ni_add it 7) (by decide) rfl ?_
  refine v_goto (tgt := 23) C dL_law__2574 (by decide) ?_
  exact v_lv [1, 2, 3, 4, 0] rfl kk
end LP
section LC
variable {p : Program} {l : Launch} {e : Env} {s : State} {m : MethodId} {args : Array Value} {below : List Frame} {meth : Method} {c : Code} {Q : State → Prop} {D : va_G} {A : Nat → Prop} {k n : Nat} {adK adV : Nat → Nat}
variable {cy : Nat → ClassId} {a sv ec : Nat → Nat} {ea : Nat → Nat → Nat} {vi : Nat → Option Nat} {q : Nat → Nat} {r : Nat → Nat → Nat} {bS L it K : Nat} {xs : Nat → Int32}
variable {sa : Nat → Nat → Nat} {vs : Nat → Option Nat} {k1 : Nat → Nat → Int32} {k2 : Nat → Nat → Int32} {k3 : Nat → Nat → Int32} {k4 : Nat → Nat → Int32} {kn : Nat → Int32} {sd : Nat → Nat} {d1 : Nat → Int32} {d2 : Nat → Int32} {d3 : Nat → Int32} {d4 : Nat → Int32} {dn : Int32} {w1 : Nat → Int32} {w2 : Nat → Int32} {w3 : Nat → Int32} {w4 : Nat → Int32} {wn : Int32} {lc : Nat → Nat} {c1 : Nat → Int32} {c2 : Nat → Int32} {c3 : Nat → Int32} {c4 : Nat → Int32} {c5 : Int32} {c6 : Int32} {c7 : Int32} {c8 : Int32} {ld : Nat → Nat} {b1 : Nat → Int32} {b2 : Nat → Int32} {b3 : Nat → Int32} {b4 : Nat → Int32} {b5 : Int32} {b6 : Int32} {b7 : Int32} {b8 : Int32} {si : Nat → Int32} {rf : Nat → Nat} {ar : Nat → Nat → Int32} {u1 : Nat → Int32} {u2 : Nat → Int32} {u3 : Nat → Int32} {u4 : Nat → Int32} {un : Int32} {u5 : Nat → Int32} {um : Int32} {u6 : Nat → Int32} {u7 : Nat → Int32} {u8 : Nat → Int32} {uk : Int32} {f1 : Nat → Nat → Int32} {f2 : Nat → Nat → Int32} {f3 : Nat → Nat → Int32} {f4 : Nat → Nat → Int32} {fs : Nat → Int32} {g1 : Nat → Nat → Int32} {gs : Nat → Int32} {h1 : Nat → Nat → Int32} {h2 : Nat → Nat → Int32} {h3 : Nat → Nat → Int32} {hs : Nat → Int32} {o : Nat → Int64} {mi : Nat → Int32} {ma : Nat → Nat → Int32} {mm : Nat → Nat → Nat → Int32}
set_option maxHeartbeats 8000000 in
set_option maxRecDepth 100000 in
theorem l_body (hl : l.stackTraces = false) (hK : 1000000 ≤ K) (C : VC p s m args c cL_law_ RL 7 D cy A) (hO : OW adK adV A s s.heap) (hN : NX s) (S : va_X bS L xs s s.heap ∧ bS < s.heap.size ∧ ¬ A bS ∧ L ≤ 3584) (hit : it + 7 ≤ L) (hk : k + 10 ≤ 601024) (hn : n + 100 ≤ 7293034) (hvi : ∀ j, j < 3 → vi j = some (ea j 0)) (hR : Rl vs sa k1 k2 k3 k4 kn c1 c2 c3 c4 c5 c6 c7 c8 si ar u1 u2 u3 u4 un u5 um u6 u7 u8 uk f1 f2 f3 f4 fs g1 gs h1 h2 h3 hs mi ma mm) (hd : HD p l e s m args below meth c Q D A cy a sv ec ea vi q r bS it k n) : V p l e room_1 s m args below meth c Q 7 D A k n (XC cy a sv ec ea vi 0 1 2 3 sa vs k1 k2 k3 k4 kn sd d1 d2 d3 d4 dn w1 w2 w3 w4 wn lc c1 c2 c3 c4 c5 c6 c7 c8 ld b1 b2 b3 b4 b5 b6 b7 b8 si rf ar u1 u2 u3 u4 un u5 um u6 u7 u8 uk f1 f2 f3 f4 fs g1 gs h1 h2 h3 hs o ++ WN cy q r mi ma mm) 40 [(0, .ref bS), (1, .ref (a 0)), (2, .ref (q 0)), (3, .ref (a 25)), (4, .int (nI it))] [.int (xs it &&& 63)] := by
  obtain ⟨z, hz, hz1, hz2⟩ := ex_J (xs it &&& 63)
  by_cases hr : 0 ≤ z ∧ z ≤ 35
  · rcases (show z = 0 ∨ z = 1 ∨ z = 2 ∨ z = 3 ∨ z = 4 ∨ z = 5 ∨ z = 6 ∨ z = 7 ∨ z = 8 ∨ z = 9 ∨ z = 10 ∨ z = 11 ∨ z = 12 ∨ z = 13 ∨ z = 14 ∨ z = 15 ∨ z = 16 ∨ z = 17 ∨ z = 18 ∨ z = 19 ∨ z = 20 ∨ z = 21 ∨ z = 22 ∨ z = 23 ∨ z = 24 ∨ z = 25 ∨ z = 26 ∨ z = 27 ∨ z = 28 ∨ z = 29 ∨ z = 30 ∨ z = 31 ∨ z = 32 ∨ z = 33 ∨ z = 34 ∨ z = 35 by omega) with rfl | rfl | rfl | rfl | rfl | rfl | rfl | rfl | rfl | rfl | rfl | rfl | rfl | rfl | rfl | rfl | rfl | rfl | rfl | rfl | rfl | rfl | rfl | rfl | rfl | rfl | rfl | rfl | rfl | rfl | rfl | rfl | rfl | rfl | rfl | rfl
    · exact v_tsw (tgt := 200) C 0 (hz.trans (by decide)) dL_law__40 (by decide) (by decide) rfl (by decide) (L_feed hl hK C S hit hk hn hvi hR hd)
    · exact v_tsw (tgt := 273) C 1 (hz.trans (by decide)) dL_law__40 (by decide) (by decide) rfl (by decide) (L_law hl hK C hO hN S hit hk hn hvi hR hd)
    · exact v_tsw (tgt := 329) C 2 (hz.trans (by decide)) dL_law__40 (by decide) (by decide) rfl (by decide) (L_story hl hK C hO hN S hit hk hn hvi hR hd)
    · exact v_tsw (tgt := 385) C 3 (hz.trans (by decide)) dL_law__40 (by decide) (by decide) rfl (by decide) (L_fault hl hK C S hit hk hn hvi hR hd)
    · exact v_tsw (tgt := 398) C 4 (hz.trans (by decide)) dL_law__40 (by decide) (by decide) rfl (by decide) (L_sheds hl hK C hO hN S hit hk hn hvi hR hd)
    · exact v_tsw (tgt := 466) C 5 (hz.trans (by decide)) dL_law__40 (by decide) (by decide) rfl (by decide) (L_told hl hK C hO hN S hit hk hn hvi hR hd)
    · exact v_tsw (tgt := 534) C 6 (hz.trans (by decide)) dL_law__40 (by decide) (by decide) rfl (by decide) (L_alike hl hK C hO hN S hit hk hn hvi hR hd)
    · exact v_tsw (tgt := 590) C 7 (hz.trans (by decide)) dL_law__40 (by decide) (by decide) rfl (by decide) (L_lies hl hK C hO hN S hit hk hn hvi hR hd)
    · exact v_tsw (tgt := 682) C 8 (hz.trans (by decide)) dL_law__40 (by decide) (by decide) rfl (by decide) (L_pile hl hK C hO hN S hit hk hn hvi hR hd)
    · exact v_tsw (tgt := 774) C 9 (hz.trans (by decide)) dL_law__40 (by decide) (by decide) rfl (by decide) (L_wears hl hK C hO hN S hit hk hn hvi hR hd)
    · exact v_tsw (tgt := 854) C 10 (hz.trans (by decide)) dL_law__40 (by decide) (by decide) rfl (by decide) (L_find hl hK C hO hN S hit hk hn hvi hR hd)
    · exact v_tsw (tgt := 946) C 11 (hz.trans (by decide)) dL_law__40 (by decide) (by decide) rfl (by decide) (L_found hl hK C hO hN S hit hk hn hvi hR hd)
    · exact v_tsw (tgt := 1014) C 12 (hz.trans (by decide)) dL_law__40 (by decide) (by decide) rfl (by decide) (L_drop hl hK C hO hN S hit hk hn hvi hR hd)
    · exact v_tsw (tgt := 1070) C 13 (hz.trans (by decide)) dL_law__40 (by decide) (by decide) rfl (by decide) (L_scale hl hK C hO hN S hit hk hn hvi hR hd)
    · exact v_tsw (tgt := 1126) C 14 (hz.trans (by decide)) dL_law__40 (by decide) (by decide) rfl (by decide) (L_digits hl hK C hO hN S hit hk hn hvi hR hd)
    · exact v_tsw (tgt := 1182) C 15 (hz.trans (by decide)) dL_law__40 (by decide) (by decide) rfl (by decide) (L_digit hl hK C hO hN S hit hk hn hvi hR hd)
    · exact v_tsw (tgt := 1250) C 16 (hz.trans (by decide)) dL_law__40 (by decide) (by decide) rfl (by decide) (L_weighed hl hK C hO hN S hit hk hn hvi hR hd)
    · exact v_tsw (tgt := 1318) C 17 (hz.trans (by decide)) dL_law__40 (by decide) (by decide) rfl (by decide) (L_worth hl hK C hO hN S hit hk hn hvi hR hd)
    · exact v_tsw (tgt := 1386) C 18 (hz.trans (by decide)) dL_law__40 (by decide) (by decide) rfl (by decide) (L_part hl hK C hO hN S hit hk hn hvi hR hd)
    · exact v_tsw (tgt := 1466) C 19 (hz.trans (by decide)) dL_law__40 (by decide) (by decide) rfl (by decide) (L_events hl hK C hO hN S hit hk hn hvi hR hd)
    · exact v_tsw (tgt := 1522) C 20 (hz.trans (by decide)) dL_law__40 (by decide) (by decide) rfl (by decide) (L_counts hl hK C hO hN S hit hk hn hvi hR hd)
    · exact v_tsw (tgt := 1590) C 21 (hz.trans (by decide)) dL_law__40 (by decide) (by decide) rfl (by decide) (L_needed hl hK C hO hN S hit hk hn hvi hR hd)
    · exact v_tsw (tgt := 1658) C 22 (hz.trans (by decide)) dL_law__40 (by decide) (by decide) rfl (by decide) (L_byWay hl hK C hO hN S hit hk hn hvi hR hd)
    · exact v_tsw (tgt := 1776) C 23 (hz.trans (by decide)) dL_law__40 (by decide) (by decide) rfl (by decide) (L_bench hl hK C hO hN S hit hk hn hvi hR hd)
    · exact v_tsw (tgt := 1868) C 24 (hz.trans (by decide)) dL_law__40 (by decide) (by decide) rfl (by decide) (L_after hl hK C hO hN S hit hk hn hvi hR hd)
    · exact v_tsw (tgt := 1976) C 25 (hz.trans (by decide)) dL_law__40 (by decide) (by decide) rfl (by decide) (L_seat hl hK C hO hN S hit hk hn hvi hR hd)
    · exact v_tsw (tgt := 2032) C 26 (hz.trans (by decide)) dL_law__40 (by decide) (by decide) rfl (by decide) (L_share hl hK C hO hN S hit hk hn hvi hR hd)
    · exact v_tsw (tgt := 2088) C 27 (hz.trans (by decide)) dL_law__40 (by decide) (by decide) rfl (by decide) (L_together hl hK C hO hN S hit hk hn hvi hR hd)
    · exact v_tsw (tgt := 2156) C 28 (hz.trans (by decide)) dL_law__40 (by decide) (by decide) rfl (by decide) (L_shop hl hK C hO hN S hit hk hn hvi hR hd)
    · exact v_tsw (tgt := 2236) C 29 (hz.trans (by decide)) dL_law__40 (by decide) (by decide) rfl (by decide) (L_rare hl hK C hO hN S hit hk hn hvi hR hd)
    · exact v_tsw (tgt := 2304) C 30 (hz.trans (by decide)) dL_law__40 (by decide) (by decide) rfl (by decide) (L_next hl hK C hO hN S hit hk hn hvi hR hd)
    · exact v_tsw (tgt := 2384) C 31 (hz.trans (by decide)) dL_law__40 (by decide) (by decide) rfl (by decide) (L_signs hl hK C hO hN S hit hk hn hvi hR hd)
    · exact v_tsw (tgt := 2452) C 32 (hz.trans (by decide)) dL_law__40 (by decide) (by decide) rfl (by decide) (L_said hl hK C hO hN S hit hk hn hvi hR hd)
    · exact v_tsw (tgt := 2520) C 33 (hz.trans (by decide)) dL_law__40 (by decide) (by decide) rfl (by decide) (L_image hl hK C S hit hk hn hvi hR hd)
    · exact v_tsw (tgt := 2533) C 34 (hz.trans (by decide)) dL_law__40 (by decide) (by decide) rfl (by decide) (L_restore hl hK C S hit hk hn hvi hR hd)
    · exact v_tsw (tgt := 2546) C 35 (hz.trans (by decide)) dL_law__40 (by decide) (by decide) rfl (by decide) (L_count hl hK C S hit hk hn hvi hR hd)
  · refine v_tswO (tgt := 2571) C dL_law__40 (by rw [hz, J_toInt hz1 hz2]; omega) (by decide) ?_
    exact hd k n (by omega) (by omega) _ _ _ _ _ _ _ _ _ _ _ _ _ _ _ _ _ _ _ _ _ _ _ _ _ _ _ _ _ _ _ _ _ _ _ _ _ _ _ _ _ _ _ _ _ _ _ _ _ _ _ _ _ _ _ _ _ _ _ _ _ _ _ _ _ hR
set_option maxHeartbeats 8000000 in
set_option maxRecDepth 100000 in
theorem l_loop (hl : l.stackTraces = false) (hK : 1000000 ≤ K) (C : VC p s m args c cL_law_ RL 7 D cy A) (hO : OW adK adV A s s.heap) (hN : NX s) (S : va_X bS L xs s s.heap ∧ bS < s.heap.size ∧ ¬ A bS ∧ L ≤ 3584) (hvi : ∀ j, j < 3 → vi j = some (ea j 0)) (hend : ∀ (k n : Nat) (ws : va_W) (lv : List (Nat × Value)), k ≤ 601024 → n ≤ 7293034 → V p l e room_1 s m args below meth c Q 7 D A k n ws 2577 lv []) : ∀ (N it k n : Nat), L < it + 7 + 7 * N → it ≤ L → k + 10 * N ≤ 601024 → n + 100 * N ≤ 7293034 → ∀ (sa : Nat → Nat → Nat) (vs : Nat → Option Nat) (k1 : Nat → Nat → Int32) (k2 : Nat → Nat → Int32) (k3 : Nat → Nat → Int32) (k4 : Nat → Nat → Int32) (kn : Nat → Int32) (sd : Nat → Nat) (d1 : Nat → Int32) (d2 : Nat → Int32) (d3 : Nat → Int32) (d4 : Nat → Int32) (dn : Int32) (w1 : Nat → Int32) (w2 : Nat → Int32) (w3 : Nat → Int32) (w4 : Nat → Int32) (wn : Int32) (lc : Nat → Nat) (c1 : Nat → Int32) (c2 : Nat → Int32) (c3 : Nat → Int32) (c4 : Nat → Int32) (c5 : Int32) (c6 : Int32) (c7 : Int32) (c8 : Int32) (ld : Nat → Nat) (b1 : Nat → Int32) (b2 : Nat → Int32) (b3 : Nat → Int32) (b4 : Nat → Int32) (b5 : Int32) (b6 : Int32) (b7 : Int32) (b8 : Int32) (si : Nat → Int32) (rf : Nat → Nat) (ar : Nat → Nat → Int32) (u1 : Nat → Int32) (u2 : Nat → Int32) (u3 : Nat → Int32) (u4 : Nat → Int32) (un : Int32) (u5 : Nat → Int32) (um : Int32) (u6 : Nat → Int32) (u7 : Nat → Int32) (u8 : Nat → Int32) (uk : Int32) (f1 : Nat → Nat → Int32) (f2 : Nat → Nat → Int32) (f3 : Nat → Nat → Int32) (f4 : Nat → Nat → Int32) (fs : Nat → Int32) (g1 : Nat → Nat → Int32) (gs : Nat → Int32) (h1 : Nat → Nat → Int32) (h2 : Nat → Nat → Int32) (h3 : Nat → Nat → Int32) (hs : Nat → Int32) (o : Nat → Int64) (mi : Nat → Int32) (ma : Nat → Nat → Int32) (mm : Nat → Nat → Nat → Int32), Rl vs sa k1 k2 k3 k4 kn c1 c2 c3 c4 c5 c6 c7 c8 si ar u1 u2 u3 u4 un u5 um u6 u7 u8 uk f1 f2 f3 f4 fs g1 gs h1 h2 h3 hs mi ma mm → V p l e room_1 s m args below meth c Q 7 D A k n (XC cy a sv ec ea vi 0 1 2 3 sa vs k1 k2 k3 k4 kn sd d1 d2 d3 d4 dn w1 w2 w3 w4 wn lc c1 c2 c3 c4 c5 c6 c7 c8 ld b1 b2 b3 b4 b5 b6 b7 b8 si rf ar u1 u2 u3 u4 un u5 um u6 u7 u8 uk f1 f2 f3 f4 fs g1 gs h1 h2 h3 hs o ++ WN cy q r mi ma mm) 23 [(0, .ref bS), (1, .ref (a 0)), (2, .ref (q 0)), (3, .ref (a 25)), (4, .int (nI it))] [] := by
  intro N
  induction N with
  | zero =>
    intro it k n h1 h2 h3 h4 sa vs k1 k2 k3 k4 kn sd d1 d2 d3 d4 dn w1 w2 w3 w4 wn lc c1 c2 c3 c4 c5 c6 c7 c8 ld b1 b2 b3 b4 b5 b6 b7 b8 si rf ar u1 u2 u3 u4 un u5 um u6 u7 u8 uk f1 f2 f3 f4 fs g1 gs h1 h2 h3 hs o mi ma mm hR
    exact l_head C S (by have := S.2.2.2; omega) (hend _ _ _ _ (by omega) (by omega)) (fun h => by omega)
  | succ N ih =>
    intro it k n h1 h2 h3 h4 sa vs k1 k2 k3 k4 kn sd d1 d2 d3 d4 dn w1 w2 w3 w4 wn lc c1 c2 c3 c4 c5 c6 c7 c8 ld b1 b2 b3 b4 b5 b6 b7 b8 si rf ar u1 u2 u3 u4 un u5 um u6 u7 u8 uk f1 f2 f3 f4 fs g1 gs h1 h2 h3 hs o mi ma mm hR
    refine l_head C S (by have := S.2.2.2; omega) (hend _ _ _ _ (by omega) (by omega)) (fun h => ?_)
    refine l_body hl hK C hO hN S h (by omega) (by omega) hvi hR ?_
    intro k' n' gg1 gg2 sa vs k1 k2 k3 k4 kn sd d1 d2 d3 d4 dn w1 w2 w3 w4 wn lc c1 c2 c3 c4 c5 c6 c7 c8 ld b1 b2 b3 b4 b5 b6 b7 b8 si rf ar u1 u2 u3 u4 un u5 um u6 u7 u8 uk f1 f2 f3 f4 fs g1 gs h1 h2 h3 hs o mi ma mm hR
    exact l_next C (ih (it + 7) k' n' (by omega) (by omega) (by omega) (by omega) sa vs k1 k2 k3 k4 kn sd d1 d2 d3 d4 dn w1 w2 w3 w4 wn lc c1 c2 c3 c4 c5 c6 c7 c8 ld b1 b2 b3 b4 b5 b6 b7 b8 si rf ar u1 u2 u3 u4 un u5 um u6 u7 u8 uk f1 f2 f3 f4 fs g1 gs h1 h2 h3 hs o mi ma mm hR)
end LC
