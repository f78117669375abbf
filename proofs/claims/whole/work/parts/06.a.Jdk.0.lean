/-! printed by dec.py: Jdk 0 -/
def fJ7_fill_53178_B5 (a0 : Nat) (m : Nat) (x1 : Int32) (x2 : Int32) (x3 : Int32) (M : Mem) : Option ((Int32 × Mem) ⊕ (Mem)) :=
  if x3 ≤ x2 then
  (some (.inr M))
  else
  ((nq_as M a0 m x2 x1).bind fun M3 =>
  nq_lt (x2 + (1 : Int32)) fun v4 =>
  some (.inl (v4, M3)))
set_option maxHeartbeats 4000000 in
theorem mJ7_fill_53178_B5 {X : Cx} {E : Ev} {l : Launch} {K : List Sh} {a0 : Nat} {m : Nat} {x1 : Int32} {x2 : Int32} {x3 : Int32} {M : Mem} (ha0 : K[a0]? = some (.inl (0, m))) (hX : nq_OK X E l (nq_rm 1) cJ7_fill_53178 4 RJ7 wsJ7_fill_53178) {x : (Int32 × Mem) ⊕ (Mem)} (hc : ∀ s' : Int32 × Mem, x = .inl s' → nq_G X E 4 5 [(0, .ref (nq_ad E a0)), (1, .int x1), (2, .int s'.1), (3, .int x3)] [] K s'.2) (he : ∀ s' : Mem, x = .inr s' → nq_G X E 4 20 [] [] K s') (h : fJ7_fill_53178_B5 a0 m x1 x2 x3 M = some x) : nq_G X E 4 5 [(0, .ref (nq_ad E a0)), (1, .int x1), (2, .int x2), (3, .int x3)] [] K M := by
  unfold fJ7_fill_53178_B5 at h
  refine nq_iload_n hX rfl 2 rfl dJ7_fill_53178_5 ?_
  refine nq_iload_n hX rfl 3 rfl dJ7_fill_53178_6 ?_
  refine nq_icmp_ge hX (tgt := 20) (by decide) dJ7_fill_53178_7 (fun c2 => ?_) (fun c2 => ?_)
  · rw [if_pos c2] at h
    refine nq_sub (lv' := []) [] rfl ?_
    exact he M (nq_sE h).symm
  · rw [if_neg c2] at h
    refine nq_aload_n hX rfl 0 rfl dJ7_fill_53178_10 ?_
    refine nq_iload_n hX rfl 2 rfl dJ7_fill_53178_11 ?_
    refine nq_iload_n hX rfl 1 rfl dJ7_fill_53178_12 ?_
    obtain ⟨M3, e3, hi3, h⟩ := nq_asE h
    refine nq_iast hX ha0 e3 hi3 dJ7_fill_53178_13 ?_
    obtain ⟨v4, e4, h⟩ := nq_ltE h
    refine nq_iinc hX (lv' := [(2, .int v4), (0, .ref (nq_ad E a0)), (1, .int x1), (3, .int x3)]) (j := 2) rfl (e4.trans rfl) (by decide) rfl dJ7_fill_53178_14 ?_
    refine nq_goto hX (tgt := 5) (by decide) dJ7_fill_53178_17 ?_
    refine nq_sub (lv' := [(0, .ref (nq_ad E a0)), (1, .int x1), (2, .int v4), (3, .int x3)]) [1, 2, 0, 3] rfl ?_
    exact hc (v4, M3) (nq_sE h).symm
def fJ7_fill_53178_L20 (a0 : Nat) (m : Nat) (M : Mem) : Option (Mem) :=
  some M
set_option maxHeartbeats 4000000 in
theorem mJ7_fill_53178_L20 {X : Cx} {E : Ev} {l : Launch} {K : List Sh} {a0 : Nat} {m : Nat} {M : Mem} {M' : Mem} (ha0 : K[a0]? = some (.inl (0, m))) (hX : nq_OK X E l (nq_rm 1) cJ7_fill_53178 4 RJ7 wsJ7_fill_53178) (hr : nq_RT X E none none K M') (h : fJ7_fill_53178_L20 a0 m M = some M') : nq_G X E 4 20 [] [] K M := by
  unfold fJ7_fill_53178_L20 at h
  obtain rfl := nq_sE1 h; exact nq_vret hX hr dJ7_fill_53178_20
def fJ7_fill_53178_L5 (a0 : Nat) (m : Nat) (x1 : Int32) (x2 : Int32) (x3 : Int32) (M : Mem) : Option (Mem) :=
  (nq_lp (fun s : Int32 × Mem => fJ7_fill_53178_B5 a0 m x1 s.1 x3 s.2) nq_fuel (x2, M)).bind (fun e => fJ7_fill_53178_L20 a0 m e)
set_option maxHeartbeats 4000000 in
theorem mJ7_fill_53178_L5 {X : Cx} {E : Ev} {l : Launch} {K : List Sh} {a0 : Nat} {m : Nat} {x1 : Int32} {x2 : Int32} {x3 : Int32} {M : Mem} {M' : Mem} (ha0 : K[a0]? = some (.inl (0, m))) (hX : nq_OK X E l (nq_rm 1) cJ7_fill_53178 4 RJ7 wsJ7_fill_53178) (hr : nq_RT X E none none K M') (h : fJ7_fill_53178_L5 a0 m x1 x2 x3 M = some M') : nq_G X E 4 5 [(0, .ref (nq_ad E a0)), (1, .int x1), (2, .int x2), (3, .int x3)] [] K M := by
  unfold fJ7_fill_53178_L5 at h
  obtain ⟨e, h1, h⟩ := nq_bE h
  have key : ∀ (ex : Mem), nq_lp (fun s : Int32 × Mem => fJ7_fill_53178_B5 a0 m x1 s.1 x3 s.2) nq_fuel (x2, M) = some ex → (∀ e, ex = e → nq_G X E 4 20 [] [] K e) → nq_G X E 4 5 [(0, .ref (nq_ad E a0)), (1, .int x1), (2, .int ((x2, M).1)), (3, .int x3)] [] K (x2, M).2 := by
    intro ex h1 hE
    refine nq_lpE (P := fun s : Int32 × Mem => nq_G X E 4 5 [(0, .ref (nq_ad E a0)), (1, .int x1), (2, .int s.1), (3, .int x3)] [] K s.2) (r := ex) ?_ nq_fuel (x2, M) h1
    intro s xx hx1 hc1 he1
    exact mJ7_fill_53178_B5 ha0 hX hc1 (fun e q => hE e (he1 _ q).symm) hx1
  refine key e h1 (fun e q => ?_)
  subst q
  exact mJ7_fill_53178_L20 ha0 hX hr h
def fJ7_fill_53178 (a0 : Nat) (m : Nat) (x1 : Int32) (M : Mem) : Option (Mem) :=
  nq_lt ((Int32.ofNat m)) fun v1 =>
  fJ7_fill_53178_L5 a0 m x1 (0 : Int32) v1 M
set_option maxHeartbeats 4000000 in
theorem mJ7_fill_53178 {X : Cx} {E : Ev} {l : Launch} {K : List Sh} {a0 : Nat} {m : Nat} {x1 : Int32} {M : Mem} {M' : Mem} (ha0 : K[a0]? = some (.inl (0, m))) (hX : nq_OK X E l (nq_rm 1) cJ7_fill_53178 4 RJ7 wsJ7_fill_53178) (hr : nq_RT X E none none K M') (h : fJ7_fill_53178 a0 m x1 M = some M') : nq_G X E 4 0 [(0, .ref (nq_ad E a0)), (1, .int x1)] [] K M := by
  unfold fJ7_fill_53178 at h
  refine nq_iconst hX (v := 0) (by decide) dJ7_fill_53178_0 ?_
  refine nq_istore_n hX (lv' := [(2, .int (0 : Int32)), (0, .ref (nq_ad E a0)), (1, .int x1)]) rfl (by decide) rfl rfl dJ7_fill_53178_1 ?_
  refine nq_aload_n hX rfl 1 rfl dJ7_fill_53178_2 ?_
  refine nq_alen hX (ty := .int) ha0 rfl rfl dJ7_fill_53178_3 ?_
  obtain ⟨v1, e1, h⟩ := nq_ltE h
  refine nq_istore_n hX (lv' := [(3, .int v1), (2, .int (0 : Int32)), (0, .ref (nq_ad E a0)), (1, .int x1)]) rfl (by decide) e1 rfl dJ7_fill_53178_4 ?_
  refine nq_sub (lv' := [(0, .ref (nq_ad E a0)), (1, .int x1), (2, .int (0 : Int32)), (3, .int v1)]) [2, 3, 1, 0] rfl ?_
  exact mJ7_fill_53178_L5 ha0 hX hr h
theorem dsJ7_fill_53178 : yJ7_fill_53178.cls ≠ "java/lang/invoke/MethodHandle" ∧ yJ7_fill_53178.cls ≠ "java/lang/invoke/VarHandle" ∧ (parseMethodDescriptor yJ7_fill_53178.desc).map (fun d => d.parameters.length) = some 2 := by decide +kernel
theorem tJ7_fill_53178 {l : Launch} {E : Ev} {K : List Sh} {a0 : Nat} {m : Nat} {x1 : Int32} {M : Mem} {M' : Mem} (ha0 : K[a0]? = some (.inl (0, m))) (h : fJ7_fill_53178 a0 m x1 M = some M') : nq_MA l E yJ7_fill_53178 wsJ7_fill_53178 (nq_rm 1) [.ref (nq_ad E a0), .int x1] K M none K M' :=
  nq_met (own := RJ7) (cc := cJ7_fill_53178) (maxL := 4) (ret := none) (by decide) rfl rfl (Nat.le_of_ble_eq_true rfl) (fun X hX hr => mJ7_fill_53178 ha0 hX hr h)

def fJ1_canEncode_9a6ad (x0 : Int32) (M : Mem) : Option (Int32) :=
  if x0 < 0 then
  (some (0 : Int32))
  else
  (if (255 : Int32) < x0 then
  (some (0 : Int32))
  else
  (some (1 : Int32)))
set_option maxHeartbeats 4000000 in
theorem mJ1_canEncode_9a6ad {X : Cx} {E : Ev} {l : Launch} {K : List Sh} {x0 : Int32} {M : Mem} {r : Int32}  (hX : nq_OK X E l (nq_rm 1) cJ1_canEncode_9a6ad 1 RJ1 wsJ1_canEncode_9a6ad) (hr : nq_RT X E (some .boolean) (some (.int r)) K M) (h : fJ1_canEncode_9a6ad x0 M = some r) : nq_G X E 1 0 [(0, .int x0)] [] K M := by
  unfold fJ1_canEncode_9a6ad at h
  refine nq_iload_n hX rfl 0 rfl dJ1_canEncode_9a6ad_0 ?_
  refine nq_if_lt hX (tgt := 15) (by decide) dJ1_canEncode_9a6ad_1 (fun c1 => ?_) (fun c1 => ?_)
  · rw [if_pos c1] at h
    refine nq_iconst hX (v := 0) (by decide) dJ1_canEncode_9a6ad_15 ?_
    obtain rfl := nq_sE1 h; exact nq_zret hX hr rfl dJ1_canEncode_9a6ad_16
  · rw [if_neg c1] at h
    refine nq_iload_n hX rfl 0 rfl dJ1_canEncode_9a6ad_4 ?_
    refine nq_sipush hX (v := 255) (by decide) dJ1_canEncode_9a6ad_5 ?_
    refine nq_icmp_gt hX (tgt := 15) (by decide) dJ1_canEncode_9a6ad_8 (fun c2 => ?_) (fun c2 => ?_)
    · rw [if_pos c2] at h
      refine nq_iconst hX (v := 0) (by decide) dJ1_canEncode_9a6ad_15 ?_
      obtain rfl := nq_sE1 h; exact nq_zret hX hr rfl dJ1_canEncode_9a6ad_16
    · rw [if_neg c2] at h
      refine nq_iconst hX (v := 1) (by decide) dJ1_canEncode_9a6ad_11 ?_
      refine nq_goto hX (tgt := 16) (by decide) dJ1_canEncode_9a6ad_12 ?_
      obtain rfl := nq_sE1 h; exact nq_zret hX hr rfl dJ1_canEncode_9a6ad_16
theorem dsJ1_canEncode_9a6ad : yJ1_canEncode_9a6ad.cls ≠ "java/lang/invoke/MethodHandle" ∧ yJ1_canEncode_9a6ad.cls ≠ "java/lang/invoke/VarHandle" ∧ (parseMethodDescriptor yJ1_canEncode_9a6ad.desc).map (fun d => d.parameters.length) = some 1 := by decide +kernel
theorem tJ1_canEncode_9a6ad {l : Launch} {E : Ev} {K : List Sh} {x0 : Int32} {M : Mem} {r : Int32}  (h : fJ1_canEncode_9a6ad x0 M = some r) : nq_MA l E yJ1_canEncode_9a6ad wsJ1_canEncode_9a6ad (nq_rm 1) [.int x0] K M (some (.int r)) K M :=
  nq_met (own := RJ1) (cc := cJ1_canEncode_9a6ad) (maxL := 1) (ret := (some .boolean)) (by decide) rfl rfl (Nat.le_of_ble_eq_true rfl) (fun X hX hr => mJ1_canEncode_9a6ad  hX hr h)

def fJ1_indexOfChar_4cfef_B7 (k : Nat) (x3 : Int32) (x4 : Int32) (x5 : Int32) (M : Mem) : Option ((Int32) ⊕ ((Unit) ⊕ (Int32))) :=
  if x3 ≤ x5 then
  (some (.inr (.inl ())))
  else
  ((nq_ag (fun j => (nq_sb.getD k []).getD j 0) (nq_sl.getD k 0) x5).bind fun v3 =>
  if v3 = x4 then
  (some (.inr (.inr x5)))
  else
  (nq_lt (x5 + (1 : Int32)) fun v5 =>
  some (.inl v5)))
set_option maxHeartbeats 4000000 in
theorem mJ1_indexOfChar_4cfef_B7 {X : Cx} {E : Ev} {l : Launch} {K : List Sh} {k : Nat} {x3 : Int32} {x4 : Int32} {x5 : Int32} {M : Mem} (hk : k < 8) (hX : nq_OK X E l (nq_rm 1) cJ1_indexOfChar_4cfef 6 RJ1 wsJ1_indexOfChar_4cfef) {x : (Int32) ⊕ ((Unit) ⊕ (Int32))} (hc : ∀ s' : Int32, x = .inl s' → nq_G X E 6 7 [(0, .ref (nq_xv E k)), (3, .int x3), (4, .int x4), (5, .int s')] [] K M) (he : ∀ s' : Unit, x = .inr (.inl s') → nq_G X E 6 31 [] [] K M) (hret : ∀ r : Int32, x = .inr (.inr r) → nq_RT X E (some .int) (some (.int r)) K M) (h : fJ1_indexOfChar_4cfef_B7 k x3 x4 x5 M = some x) : nq_G X E 6 7 [(0, .ref (nq_xv E k)), (3, .int x3), (4, .int x4), (5, .int x5)] [] K M := by
  unfold fJ1_indexOfChar_4cfef_B7 at h
  refine nq_iload hX 3 rfl dJ1_indexOfChar_4cfef_7 ?_
  refine nq_iload_n hX rfl 1 rfl dJ1_indexOfChar_4cfef_9 ?_
  refine nq_icmp_ge hX (tgt := 31) (by decide) dJ1_indexOfChar_4cfef_10 (fun c2 => ?_) (fun c2 => ?_)
  · rw [if_pos c2] at h
    refine nq_sub (lv' := []) [] rfl ?_
    exact he () (nq_sE h).symm
  · rw [if_neg c2] at h
    refine nq_aload_n hX rfl 0 rfl dJ1_indexOfChar_4cfef_13 ?_
    refine nq_iload hX 3 rfl dJ1_indexOfChar_4cfef_14 ?_
    obtain ⟨v3, e3, hi3, h⟩ := nq_agE h
    refine nq_sbyte hX hk e3 hi3 dJ1_indexOfChar_4cfef_16 ?_
    refine nq_iload hX 2 rfl dJ1_indexOfChar_4cfef_17 ?_
    refine nq_icmp_ne hX (tgt := 25) (by decide) dJ1_indexOfChar_4cfef_19 (fun c4 => ?_) (fun c4 => ?_)
    · rw [if_pos c4] at h
      refine nq_iload hX 3 rfl dJ1_indexOfChar_4cfef_22 ?_
      exact nq_iret hX (hret x5 (nq_sE h).symm) dJ1_indexOfChar_4cfef_24
    · rw [if_neg c4] at h
      obtain ⟨v5, e5, h⟩ := nq_ltE h
      refine nq_iinc hX (lv' := [(5, .int v5), (0, .ref (nq_xv E k)), (3, .int x3), (4, .int x4)]) (j := 3) rfl (e5.trans rfl) (by decide) rfl dJ1_indexOfChar_4cfef_25 ?_
      refine nq_goto hX (tgt := 7) (by decide) dJ1_indexOfChar_4cfef_28 ?_
      refine nq_sub (lv' := [(0, .ref (nq_xv E k)), (3, .int x3), (4, .int x4), (5, .int v5)]) [1, 2, 3, 0] rfl ?_
      exact hc v5 (nq_sE h).symm
def fJ1_indexOfChar_4cfef_L31 (k : Nat) (M : Mem) : Option (Int32) :=
  some (-1 : Int32)
set_option maxHeartbeats 4000000 in
theorem mJ1_indexOfChar_4cfef_L31 {X : Cx} {E : Ev} {l : Launch} {K : List Sh} {k : Nat} {M : Mem} {r : Int32} (hk : k < 8) (hX : nq_OK X E l (nq_rm 1) cJ1_indexOfChar_4cfef 6 RJ1 wsJ1_indexOfChar_4cfef) (hr : nq_RT X E (some .int) (some (.int r)) K M) (h : fJ1_indexOfChar_4cfef_L31 k M = some r) : nq_G X E 6 31 [] [] K M := by
  unfold fJ1_indexOfChar_4cfef_L31 at h
  refine nq_iconst hX (v := -1) (by decide) dJ1_indexOfChar_4cfef_31 ?_
  obtain rfl := nq_sE1 h; exact nq_iret hX hr dJ1_indexOfChar_4cfef_32
def fJ1_indexOfChar_4cfef_L7 (k : Nat) (x3 : Int32) (x4 : Int32) (x5 : Int32) (M : Mem) : Option (Int32) :=
  (nq_lp (fun s : Int32 => fJ1_indexOfChar_4cfef_B7 k x3 x4 s M) nq_fuel x5).bind (Sum.elim (fun e => fJ1_indexOfChar_4cfef_L31 k M) (fun r1 => some r1))
set_option maxHeartbeats 4000000 in
theorem mJ1_indexOfChar_4cfef_L7 {X : Cx} {E : Ev} {l : Launch} {K : List Sh} {k : Nat} {x3 : Int32} {x4 : Int32} {x5 : Int32} {M : Mem} {r : Int32} (hk : k < 8) (hX : nq_OK X E l (nq_rm 1) cJ1_indexOfChar_4cfef 6 RJ1 wsJ1_indexOfChar_4cfef) (hr : nq_RT X E (some .int) (some (.int r)) K M) (h : fJ1_indexOfChar_4cfef_L7 k x3 x4 x5 M = some r) : nq_G X E 6 7 [(0, .ref (nq_xv E k)), (3, .int x3), (4, .int x4), (5, .int x5)] [] K M := by
  unfold fJ1_indexOfChar_4cfef_L7 at h
  obtain ⟨e, h1, h⟩ := nq_bE h
  have key : ∀ (ex : (Unit) ⊕ (Int32)), nq_lp (fun s : Int32 => fJ1_indexOfChar_4cfef_B7 k x3 x4 s M) nq_fuel x5 = some ex → (∀ e, ex = .inl e → nq_G X E 6 31 [] [] K M) → (∀ r, ex = .inr r → nq_RT X E (some .int) (some (.int r)) K M) → nq_G X E 6 7 [(0, .ref (nq_xv E k)), (3, .int x3), (4, .int x4), (5, .int x5)] [] K M := by
    intro ex h1 hE hR
    refine nq_lpE (P := fun s : Int32 => nq_G X E 6 7 [(0, .ref (nq_xv E k)), (3, .int x3), (4, .int x4), (5, .int s)] [] K M) (r := ex) ?_ nq_fuel x5 h1
    intro s xx hx1 hc1 he1
    exact mJ1_indexOfChar_4cfef_B7 hk hX hc1 (fun e q => hE e (he1 _ q).symm) (fun r q => hR r (he1 _ q).symm) hx1
  refine key e h1 (fun e q => ?_) (fun r1 q => ?_)
  · subst q
    have h : fJ1_indexOfChar_4cfef_L31 k M = some r := h
    exact mJ1_indexOfChar_4cfef_L31 hk hX hr h
  · subst q
    have h : some r1 = some r := h
    obtain rfl := nq_sE1 h; exact hr
def fJ1_indexOfChar_4cfef (k : Nat) (x1 : Int32) (x2 : Int32) (x3 : Int32) (M : Mem) : Option (Int32) :=
  nq_lt (x1.toInt8.toInt32) fun v1 =>
  fJ1_indexOfChar_4cfef_L7 k x3 v1 x2 M
set_option maxHeartbeats 4000000 in
theorem mJ1_indexOfChar_4cfef {X : Cx} {E : Ev} {l : Launch} {K : List Sh} {k : Nat} {x1 : Int32} {x2 : Int32} {x3 : Int32} {M : Mem} {r : Int32} (hk : k < 8) (hX : nq_OK X E l (nq_rm 1) cJ1_indexOfChar_4cfef 6 RJ1 wsJ1_indexOfChar_4cfef) (hr : nq_RT X E (some .int) (some (.int r)) K M) (h : fJ1_indexOfChar_4cfef k x1 x2 x3 M = some r) : nq_G X E 6 0 [(0, .ref (nq_xv E k)), (1, .int x1), (2, .int x2), (3, .int x3)] [] K M := by
  unfold fJ1_indexOfChar_4cfef at h
  refine nq_iload_n hX rfl 1 rfl dJ1_indexOfChar_4cfef_0 ?_
  refine nq_i2b hX dJ1_indexOfChar_4cfef_1 ?_
  obtain ⟨v1, e1, h⟩ := nq_ltE h
  refine nq_istore hX (lv' := [(4, .int v1), (0, .ref (nq_xv E k)), (1, .int x1), (2, .int x2), (3, .int x3)]) (by decide) e1 rfl dJ1_indexOfChar_4cfef_2 ?_
  refine nq_iload_n hX rfl 3 rfl dJ1_indexOfChar_4cfef_4 ?_
  refine nq_istore hX (lv' := [(5, .int x2), (4, .int v1), (0, .ref (nq_xv E k)), (1, .int x1), (2, .int x2), (3, .int x3)]) (by decide) rfl rfl dJ1_indexOfChar_4cfef_5 ?_
  refine nq_sub (lv' := [(0, .ref (nq_xv E k)), (3, .int x3), (4, .int v1), (5, .int x2)]) [2, 5, 1, 0] rfl ?_
  exact mJ1_indexOfChar_4cfef_L7 hk hX hr h
theorem dsJ1_indexOfChar_4cfef : yJ1_indexOfChar_4cfef.cls ≠ "java/lang/invoke/MethodHandle" ∧ yJ1_indexOfChar_4cfef.cls ≠ "java/lang/invoke/VarHandle" ∧ (parseMethodDescriptor yJ1_indexOfChar_4cfef.desc).map (fun d => d.parameters.length) = some 4 := by decide +kernel
theorem tJ1_indexOfChar_4cfef {l : Launch} {E : Ev} {K : List Sh} {k : Nat} {x1 : Int32} {x2 : Int32} {x3 : Int32} {M : Mem} {r : Int32} (hk : k < 8) (h : fJ1_indexOfChar_4cfef k x1 x2 x3 M = some r) : nq_MA l E yJ1_indexOfChar_4cfef wsJ1_indexOfChar_4cfef (nq_rm 1) [.ref (nq_xv E k), .int x1, .int x2, .int x3] K M (some (.int r)) K M :=
  nq_met (own := RJ1) (cc := cJ1_indexOfChar_4cfef) (maxL := 6) (ret := (some .int)) (by decide) rfl rfl (Nat.le_of_ble_eq_true rfl) (fun X hX hr => mJ1_indexOfChar_4cfef hk hX hr h)

theorem mmJ1_indexOf_4cfef_k92 : Cond.methodLink RJ1 92 Lib.Math.max.name ∈ wsJ1_indexOf_4cfef := by decide +kernel
theorem mmJ1_indexOf_4cfef_stmax : Cond.static Lib.Math.max.name ∈ wsJ1_indexOf_4cfef := by decide +kernel
theorem mmJ1_indexOf_4cfef_im : Cond.initialized "java/lang/Math" ∈ wsJ1_indexOf_4cfef := by decide +kernel
theorem mmJ1_indexOf_4cfef_cdmax : Cond.code Lib.Math.max.name Lib.Math.max.code 2 (some .int) ∈ wsJ1_indexOf_4cfef := by decide +kernel
theorem mmJ1_indexOf_4cfef_k38 : Cond.methodLink RJ1 38 Lib.Math.min.name ∈ wsJ1_indexOf_4cfef := by decide +kernel
theorem mmJ1_indexOf_4cfef_stmin : Cond.static Lib.Math.min.name ∈ wsJ1_indexOf_4cfef := by decide +kernel
theorem mmJ1_indexOf_4cfef_cdmin : Cond.code Lib.Math.min.name Lib.Math.min.code 2 (some .int) ∈ wsJ1_indexOf_4cfef := by decide +kernel
def fJ1_indexOf_4cfef (k : Nat) (x1 : Int32) (x2 : Int32) (x3 : Int32) (M : Mem) : Option (Int32) :=
  (fJ1_canEncode_9a6ad x1 M).bind fun v1 =>
  if v1 = 0 then
  (some (-1 : Int32))
  else
  (nq_lt (if x2 < (0 : Int32) then (0 : Int32) else x2) fun v4 =>
  nq_lt (if (Int32.ofNat (nq_sl.getD k 0)) < x3 then (Int32.ofNat (nq_sl.getD k 0)) else x3) fun v5 =>
  if v4 < v5 then
  ((fJ1_indexOfChar_4cfef k x1 v4 v5 M).bind fun v7 =>
  some v7)
  else
  (some (-1 : Int32)))
set_option maxHeartbeats 4000000 in
theorem mJ1_indexOf_4cfef {X : Cx} {E : Ev} {l : Launch} {K : List Sh} {k : Nat} {x1 : Int32} {x2 : Int32} {x3 : Int32} {M : Mem} {r : Int32} (hk : k < 8) (hX : nq_OK X E l (nq_rm 3) cJ1_indexOf_4cfef 4 RJ1 wsJ1_indexOf_4cfef) (hr : nq_RT X E (some .int) (some (.int r)) K M) (h : fJ1_indexOf_4cfef k x1 x2 x3 M = some r) : nq_G X E 4 0 [(0, .ref (nq_xv E k)), (1, .int x1), (2, .int x2), (3, .int x3)] [] K M := by
  unfold fJ1_indexOf_4cfef at h
  refine nq_iload_n hX rfl 1 rfl dJ1_indexOf_4cfef_0 ?_
  obtain ⟨v1, hc2, h⟩ := nq_bE h
  refine nq_callSXi hX (tJ1_canEncode_9a6ad  hc2) gJ1_indexOf_4cfef_J1_canEncode_9a6ad rfl dsJ1_canEncode_9a6ad (by decide) rfl (Nat.le_of_ble_eq_true rfl) dJ1_indexOf_4cfef_1 ?_
  refine nq_if_ne hX (tgt := 9) (by decide) dJ1_indexOf_4cfef_4 (fun c3 => ?_) (fun c3 => ?_)
  · rw [if_pos c3] at h
    refine nq_iconst hX (v := -1) (by decide) dJ1_indexOf_4cfef_7 ?_
    obtain rfl := nq_sE1 h; exact nq_iret hX hr dJ1_indexOf_4cfef_8
  · rw [if_neg c3] at h
    refine nq_iload_n hX rfl 2 rfl dJ1_indexOf_4cfef_9 ?_
    refine nq_iconst hX (v := 0) (by decide) dJ1_indexOf_4cfef_10 ?_
    refine nq_mmax hX mmJ1_indexOf_4cfef_k92 mmJ1_indexOf_4cfef_stmax mmJ1_indexOf_4cfef_im mmJ1_indexOf_4cfef_cdmax (by decide) (Nat.le_of_ble_eq_true rfl) dJ1_indexOf_4cfef_11 ?_
    obtain ⟨v4, e4, h⟩ := nq_ltE h
    rw [← e4]
    refine nq_istore_n hX (lv' := [(2, .int v4), (0, .ref (nq_xv E k)), (1, .int x1), (3, .int x3)]) rfl (by decide) rfl rfl dJ1_indexOf_4cfef_14 ?_
    refine nq_iload_n hX rfl 3 rfl dJ1_indexOf_4cfef_15 ?_
    refine nq_aload_n hX rfl 1 rfl dJ1_indexOf_4cfef_16 ?_
    refine nq_slen hX hk rfl dJ1_indexOf_4cfef_17 ?_
    refine nq_mmin hX mmJ1_indexOf_4cfef_k38 mmJ1_indexOf_4cfef_stmin mmJ1_indexOf_4cfef_im mmJ1_indexOf_4cfef_cdmin (by decide) (Nat.le_of_ble_eq_true rfl) dJ1_indexOf_4cfef_18 ?_
    obtain ⟨v5, e5, h⟩ := nq_ltE h
    rw [← e5]
    refine nq_istore_n hX (lv' := [(3, .int v5), (2, .int v4), (0, .ref (nq_xv E k)), (1, .int x1)]) rfl (by decide) rfl rfl dJ1_indexOf_4cfef_21 ?_
    refine nq_iload_n hX rfl 1 rfl dJ1_indexOf_4cfef_22 ?_
    refine nq_iload_n hX rfl 0 rfl dJ1_indexOf_4cfef_23 ?_
    refine nq_icmp_lt hX (tgt := 29) (by decide) dJ1_indexOf_4cfef_24 (fun c6 => ?_) (fun c6 => ?_)
    · rw [if_pos c6] at h
      refine nq_aload_n hX rfl 2 rfl dJ1_indexOf_4cfef_29 ?_
      refine nq_iload_n hX rfl 3 rfl dJ1_indexOf_4cfef_30 ?_
      refine nq_iload_n hX rfl 1 rfl dJ1_indexOf_4cfef_31 ?_
      refine nq_iload_n hX rfl 0 rfl dJ1_indexOf_4cfef_32 ?_
      obtain ⟨v7, hc8, h⟩ := nq_bE h
      refine nq_callSXi hX (tJ1_indexOfChar_4cfef hk hc8) gJ1_indexOf_4cfef_J1_indexOfChar_4cfef rfl dsJ1_indexOfChar_4cfef (by decide) rfl (Nat.le_of_ble_eq_true rfl) dJ1_indexOf_4cfef_33 ?_
      obtain rfl := nq_sE1 h; exact nq_iret hX hr dJ1_indexOf_4cfef_36
    · rw [if_neg c6] at h
      refine nq_iconst hX (v := -1) (by decide) dJ1_indexOf_4cfef_27 ?_
      obtain rfl := nq_sE1 h; exact nq_iret hX hr dJ1_indexOf_4cfef_28
theorem dsJ1_indexOf_4cfef : yJ1_indexOf_4cfef.cls ≠ "java/lang/invoke/MethodHandle" ∧ yJ1_indexOf_4cfef.cls ≠ "java/lang/invoke/VarHandle" ∧ (parseMethodDescriptor yJ1_indexOf_4cfef.desc).map (fun d => d.parameters.length) = some 4 := by decide +kernel
theorem tJ1_indexOf_4cfef {l : Launch} {E : Ev} {K : List Sh} {k : Nat} {x1 : Int32} {x2 : Int32} {x3 : Int32} {M : Mem} {r : Int32} (hk : k < 8) (h : fJ1_indexOf_4cfef k x1 x2 x3 M = some r) : nq_MA l E yJ1_indexOf_4cfef wsJ1_indexOf_4cfef (nq_rm 3) [.ref (nq_xv E k), .int x1, .int x2, .int x3] K M (some (.int r)) K M :=
  nq_met (own := RJ1) (cc := cJ1_indexOf_4cfef) (maxL := 4) (ret := (some .int)) (by decide) rfl rfl (Nat.le_of_ble_eq_true rfl) (fun X hX hr => mJ1_indexOf_4cfef hk hX hr h)

theorem mmJ0_isLatin1_aae02_s38 : Cond.fieldLink RJ0 38 "java/lang/String" "COMPACT_STRINGS" "Z" ∈ wsJ0_isLatin1_aae02 := by decide +kernel
theorem mmJ0_isLatin1_aae02_f15 : Cond.fieldLink RJ0 15 "java/lang/String" "coder" "B" ∈ wsJ0_isLatin1_aae02 := by decide +kernel
def fJ0_isLatin1_aae02 (k : Nat) (M : Mem) : Option (Int32) :=
  if (1 : Int32) = 0 then
  (some (0 : Int32))
  else
  (if (0 : Int32) = 0 then
  (some (1 : Int32))
  else
  (some (0 : Int32)))
set_option maxHeartbeats 4000000 in
theorem mJ0_isLatin1_aae02 {X : Cx} {E : Ev} {l : Launch} {K : List Sh} {k : Nat} {M : Mem} {r : Int32} (hk : k < 8) (hX : nq_OK X E l (nq_rm 1) cJ0_isLatin1_aae02 1 RJ0 wsJ0_isLatin1_aae02) (hr : nq_RT X E (some .boolean) (some (.int r)) K M) (h : fJ0_isLatin1_aae02 k M = some r) : nq_G X E 1 0 [(0, .ref (nq_xa E k))] [] K M := by
  unfold fJ0_isLatin1_aae02 at h
  refine nq_getsC hX mmJ0_isLatin1_aae02_s38 dJ0_isLatin1_aae02_0 ?_
  refine nq_if_eq hX (tgt := 17) (by decide) dJ0_isLatin1_aae02_3 (fun c1 => ?_) (fun c1 => ?_)
  · rw [if_pos c1] at h
    refine nq_iconst hX (v := 0) (by decide) dJ0_isLatin1_aae02_17 ?_
    obtain rfl := nq_sE1 h; exact nq_zret hX hr rfl dJ0_isLatin1_aae02_18
  · rw [if_neg c1] at h
    refine nq_aload_n hX rfl 0 rfl dJ0_isLatin1_aae02_6 ?_
    refine nq_scoder hX hk mmJ0_isLatin1_aae02_f15 dJ0_isLatin1_aae02_7 ?_
    refine nq_if_ne hX (tgt := 17) (by decide) dJ0_isLatin1_aae02_10 (fun c2 => ?_) (fun c2 => ?_)
    · rw [if_pos c2] at h
      refine nq_iconst hX (v := 1) (by decide) dJ0_isLatin1_aae02_13 ?_
      refine nq_goto hX (tgt := 18) (by decide) dJ0_isLatin1_aae02_14 ?_
      obtain rfl := nq_sE1 h; exact nq_zret hX hr rfl dJ0_isLatin1_aae02_18
    · rw [if_neg c2] at h
      refine nq_iconst hX (v := 0) (by decide) dJ0_isLatin1_aae02_17 ?_
      obtain rfl := nq_sE1 h; exact nq_zret hX hr rfl dJ0_isLatin1_aae02_18
theorem dsJ0_isLatin1_aae02 : yJ0_isLatin1_aae02.cls ≠ "java/lang/invoke/MethodHandle" ∧ yJ0_isLatin1_aae02.cls ≠ "java/lang/invoke/VarHandle" ∧ (parseMethodDescriptor yJ0_isLatin1_aae02.desc).map (fun d => d.parameters.length) = some 0 := by decide +kernel
theorem tJ0_isLatin1_aae02 {l : Launch} {E : Ev} {K : List Sh} {k : Nat} {M : Mem} {r : Int32} (hk : k < 8) (h : fJ0_isLatin1_aae02 k M = some r) : nq_MA l E yJ0_isLatin1_aae02 wsJ0_isLatin1_aae02 (nq_rm 1) [.ref (nq_xa E k)] K M (some (.int r)) K M :=
  nq_met (own := RJ0) (cc := cJ0_isLatin1_aae02) (maxL := 1) (ret := (some .boolean)) (by decide) rfl rfl (Nat.le_of_ble_eq_true rfl) (fun X hX hr => mJ0_isLatin1_aae02 hk hX hr h)

theorem mmJ0_coder_7d493_s38 : Cond.fieldLink RJ0 38 "java/lang/String" "COMPACT_STRINGS" "Z" ∈ wsJ0_coder_7d493 := by decide +kernel
theorem mmJ0_coder_7d493_f15 : Cond.fieldLink RJ0 15 "java/lang/String" "coder" "B" ∈ wsJ0_coder_7d493 := by decide +kernel
def fJ0_coder_7d493 (k : Nat) (M : Mem) : Option (Int32) :=
  if (1 : Int32) = 0 then
  (some (1 : Int32))
  else
  (some (0 : Int32))
set_option maxHeartbeats 4000000 in
theorem mJ0_coder_7d493 {X : Cx} {E : Ev} {l : Launch} {K : List Sh} {k : Nat} {M : Mem} {r : Int32} (hk : k < 8) (hX : nq_OK X E l (nq_rm 1) cJ0_coder_7d493 1 RJ0 wsJ0_coder_7d493) (hr : nq_RT X E (some .byte) (some (.int r)) K M) (h : fJ0_coder_7d493 k M = some r) : nq_G X E 1 0 [(0, .ref (nq_xa E k))] [] K M := by
  unfold fJ0_coder_7d493 at h
  refine nq_getsC hX mmJ0_coder_7d493_s38 dJ0_coder_7d493_0 ?_
  refine nq_if_eq hX (tgt := 13) (by decide) dJ0_coder_7d493_3 (fun c1 => ?_) (fun c1 => ?_)
  · rw [if_pos c1] at h
    refine nq_iconst hX (v := 1) (by decide) dJ0_coder_7d493_13 ?_
    obtain rfl := nq_sE1 h; exact nq_zret hX hr rfl dJ0_coder_7d493_14
  · rw [if_neg c1] at h
    refine nq_aload_n hX rfl 0 rfl dJ0_coder_7d493_6 ?_
    refine nq_scoder hX hk mmJ0_coder_7d493_f15 dJ0_coder_7d493_7 ?_
    refine nq_goto hX (tgt := 14) (by decide) dJ0_coder_7d493_10 ?_
    obtain rfl := nq_sE1 h; exact nq_zret hX hr rfl dJ0_coder_7d493_14
theorem dsJ0_coder_7d493 : yJ0_coder_7d493.cls ≠ "java/lang/invoke/MethodHandle" ∧ yJ0_coder_7d493.cls ≠ "java/lang/invoke/VarHandle" ∧ (parseMethodDescriptor yJ0_coder_7d493.desc).map (fun d => d.parameters.length) = some 0 := by decide +kernel
theorem tJ0_coder_7d493 {l : Launch} {E : Ev} {K : List Sh} {k : Nat} {M : Mem} {r : Int32} (hk : k < 8) (h : fJ0_coder_7d493 k M = some r) : nq_MA l E yJ0_coder_7d493 wsJ0_coder_7d493 (nq_rm 1) [.ref (nq_xa E k)] K M (some (.int r)) K M :=
  nq_met (own := RJ0) (cc := cJ0_coder_7d493) (maxL := 1) (ret := (some .byte)) (by decide) rfl rfl (Nat.le_of_ble_eq_true rfl) (fun X hX hr => mJ0_coder_7d493 hk hX hr h)

theorem mmJ0_length_8abf5_f9 : Cond.fieldLink RJ0 9 "java/lang/String" "value" "[B" ∈ wsJ0_length_8abf5 := by decide +kernel
def fJ0_length_8abf5 (k : Nat) (M : Mem) : Option (Int32) :=
  (fJ0_coder_7d493 k M).bind fun v1 =>
  some ((Int32.ofNat (nq_sl.getD k 0)) >>> (v1 &&& 31))
set_option maxHeartbeats 4000000 in
theorem mJ0_length_8abf5 {X : Cx} {E : Ev} {l : Launch} {K : List Sh} {k : Nat} {M : Mem} {r : Int32} (hk : k < 8) (hX : nq_OK X E l (nq_rm 2) cJ0_length_8abf5 1 RJ0 wsJ0_length_8abf5) (hr : nq_RT X E (some .int) (some (.int r)) K M) (h : fJ0_length_8abf5 k M = some r) : nq_G X E 1 0 [(0, .ref (nq_xa E k))] [] K M := by
  unfold fJ0_length_8abf5 at h
  refine nq_aload_n hX rfl 0 rfl dJ0_length_8abf5_0 ?_
  refine nq_svalue hX hk mmJ0_length_8abf5_f9 dJ0_length_8abf5_1 ?_
  refine nq_slen hX hk rfl dJ0_length_8abf5_4 ?_
  refine nq_aload_n hX rfl 0 rfl dJ0_length_8abf5_5 ?_
  obtain ⟨v1, hc2, h⟩ := nq_bE h
  refine nq_callXi hX (tJ0_coder_7d493 hk hc2) gJ0_length_8abf5_J0_coder_7d493 rfl rfl dsJ0_coder_7d493 (by decide) hk rfl (Nat.le_of_ble_eq_true rfl) dJ0_length_8abf5_6 ?_
  refine nq_ishr hX dJ0_length_8abf5_9 ?_
  obtain rfl := nq_sE1 h; exact nq_iret hX hr dJ0_length_8abf5_10
theorem dsJ0_length_8abf5 : yJ0_length_8abf5.cls ≠ "java/lang/invoke/MethodHandle" ∧ yJ0_length_8abf5.cls ≠ "java/lang/invoke/VarHandle" ∧ (parseMethodDescriptor yJ0_length_8abf5.desc).map (fun d => d.parameters.length) = some 0 := by decide +kernel
theorem tJ0_length_8abf5 {l : Launch} {E : Ev} {K : List Sh} {k : Nat} {M : Mem} {r : Int32} (hk : k < 8) (h : fJ0_length_8abf5 k M = some r) : nq_MA l E yJ0_length_8abf5 wsJ0_length_8abf5 (nq_rm 2) [.ref (nq_xa E k)] K M (some (.int r)) K M :=
  nq_met (own := RJ0) (cc := cJ0_length_8abf5) (maxL := 1) (ret := (some .int)) (by decide) rfl rfl (Nat.le_of_ble_eq_true rfl) (fun X hX hr => mJ0_length_8abf5 hk hX hr h)

theorem mmJ0_indexOf_7cf53_f9 : Cond.fieldLink RJ0 9 "java/lang/String" "value" "[B" ∈ wsJ0_indexOf_7cf53 := by decide +kernel
def fJ0_indexOf_7cf53 (k : Nat) (x1 : Int32) (x2 : Int32) (M : Mem) : Option (Int32) :=
  (fJ0_isLatin1_aae02 k M).bind fun v1 =>
  if v1 = 0 then
  (none)
  else
  ((fJ0_length_8abf5 k M).bind fun v4 =>
  (fJ1_indexOf_4cfef k x1 x2 v4 M).bind fun v6 =>
  some v6)
set_option maxHeartbeats 4000000 in
theorem mJ0_indexOf_7cf53 {X : Cx} {E : Ev} {l : Launch} {K : List Sh} {k : Nat} {x1 : Int32} {x2 : Int32} {M : Mem} {r : Int32} (hk : k < 8) (hX : nq_OK X E l (nq_rm 5) cJ0_indexOf_7cf53 3 RJ0 wsJ0_indexOf_7cf53) (hr : nq_RT X E (some .int) (some (.int r)) K M) (h : fJ0_indexOf_7cf53 k x1 x2 M = some r) : nq_G X E 3 0 [(0, .ref (nq_xa E k)), (1, .int x1), (2, .int x2)] [] K M := by
  unfold fJ0_indexOf_7cf53 at h
  refine nq_aload_n hX rfl 0 rfl dJ0_indexOf_7cf53_0 ?_
  obtain ⟨v1, hc2, h⟩ := nq_bE h
  refine nq_callXi hX (tJ0_isLatin1_aae02 hk hc2) gJ0_indexOf_7cf53_J0_isLatin1_aae02 rfl rfl dsJ0_isLatin1_aae02 (by decide) hk rfl (Nat.le_of_ble_eq_true rfl) dJ0_indexOf_7cf53_1 ?_
  refine nq_if_eq hX (tgt := 23) (by decide) dJ0_indexOf_7cf53_4 (fun c3 => ?_) (fun c3 => ?_)
  · rw [if_pos c3] at h
    cases h
  · rw [if_neg c3] at h
    refine nq_aload_n hX rfl 0 rfl dJ0_indexOf_7cf53_7 ?_
    refine nq_svalue hX hk mmJ0_indexOf_7cf53_f9 dJ0_indexOf_7cf53_8 ?_
    refine nq_iload_n hX rfl 1 rfl dJ0_indexOf_7cf53_11 ?_
    refine nq_iload_n hX rfl 2 rfl dJ0_indexOf_7cf53_12 ?_
    refine nq_aload_n hX rfl 0 rfl dJ0_indexOf_7cf53_13 ?_
    obtain ⟨v4, hc5, h⟩ := nq_bE h
    refine nq_callXi hX (tJ0_length_8abf5 hk hc5) gJ0_indexOf_7cf53_J0_length_8abf5 rfl rfl dsJ0_length_8abf5 (by decide) hk rfl (Nat.le_of_ble_eq_true rfl) dJ0_indexOf_7cf53_14 ?_
    obtain ⟨v6, hc7, h⟩ := nq_bE h
    refine nq_callSXi hX (tJ1_indexOf_4cfef hk hc7) gJ0_indexOf_7cf53_J1_indexOf_4cfef rfl dsJ1_indexOf_4cfef (by decide) rfl (Nat.le_of_ble_eq_true rfl) dJ0_indexOf_7cf53_17 ?_
    refine nq_goto hX (tgt := 36) (by decide) dJ0_indexOf_7cf53_20 ?_
    obtain rfl := nq_sE1 h; exact nq_iret hX hr dJ0_indexOf_7cf53_36
theorem dsJ0_indexOf_7cf53 : yJ0_indexOf_7cf53.cls ≠ "java/lang/invoke/MethodHandle" ∧ yJ0_indexOf_7cf53.cls ≠ "java/lang/invoke/VarHandle" ∧ (parseMethodDescriptor yJ0_indexOf_7cf53.desc).map (fun d => d.parameters.length) = some 2 := by decide +kernel
theorem tJ0_indexOf_7cf53 {l : Launch} {E : Ev} {K : List Sh} {k : Nat} {x1 : Int32} {x2 : Int32} {M : Mem} {r : Int32} (hk : k < 8) (h : fJ0_indexOf_7cf53 k x1 x2 M = some r) : nq_MA l E yJ0_indexOf_7cf53 wsJ0_indexOf_7cf53 (nq_rm 5) [.ref (nq_xa E k), .int x1, .int x2] K M (some (.int r)) K M :=
  nq_met (own := RJ0) (cc := cJ0_indexOf_7cf53) (maxL := 3) (ret := (some .int)) (by decide) rfl rfl (Nat.le_of_ble_eq_true rfl) (fun X hX hr => mJ0_indexOf_7cf53 hk hX hr h)

def fJ0_indexOf_0f7a4 (k : Nat) (x1 : Int32) (M : Mem) : Option (Int32) :=
  (fJ0_indexOf_7cf53 k x1 (0 : Int32) M).bind fun v1 =>
  some v1
set_option maxHeartbeats 4000000 in
theorem mJ0_indexOf_0f7a4 {X : Cx} {E : Ev} {l : Launch} {K : List Sh} {k : Nat} {x1 : Int32} {M : Mem} {r : Int32} (hk : k < 8) (hX : nq_OK X E l (nq_rm 7) cJ0_indexOf_0f7a4 2 RJ0 wsJ0_indexOf_0f7a4) (hr : nq_RT X E (some .int) (some (.int r)) K M) (h : fJ0_indexOf_0f7a4 k x1 M = some r) : nq_G X E 2 0 [(0, .ref (nq_xa E k)), (1, .int x1)] [] K M := by
  unfold fJ0_indexOf_0f7a4 at h
  refine nq_aload_n hX rfl 0 rfl dJ0_indexOf_0f7a4_0 ?_
  refine nq_iload_n hX rfl 1 rfl dJ0_indexOf_0f7a4_1 ?_
  refine nq_iconst hX (v := 0) (by decide) dJ0_indexOf_0f7a4_2 ?_
  obtain ⟨v1, hc2, h⟩ := nq_bE h
  refine nq_callXi hX (tJ0_indexOf_7cf53 hk hc2) gJ0_indexOf_0f7a4_J0_indexOf_7cf53 rfl rfl dsJ0_indexOf_7cf53 (by decide) hk rfl (Nat.le_of_ble_eq_true rfl) dJ0_indexOf_0f7a4_3 ?_
  obtain rfl := nq_sE1 h; exact nq_iret hX hr dJ0_indexOf_0f7a4_6
theorem dsJ0_indexOf_0f7a4 : yJ0_indexOf_0f7a4.cls ≠ "java/lang/invoke/MethodHandle" ∧ yJ0_indexOf_0f7a4.cls ≠ "java/lang/invoke/VarHandle" ∧ (parseMethodDescriptor yJ0_indexOf_0f7a4.desc).map (fun d => d.parameters.length) = some 1 := by decide +kernel
theorem tJ0_indexOf_0f7a4 {l : Launch} {E : Ev} {K : List Sh} {k : Nat} {x1 : Int32} {M : Mem} {r : Int32} (hk : k < 8) (h : fJ0_indexOf_0f7a4 k x1 M = some r) : nq_MA l E yJ0_indexOf_0f7a4 wsJ0_indexOf_0f7a4 (nq_rm 7) [.ref (nq_xa E k), .int x1] K M (some (.int r)) K M :=
  nq_met (own := RJ0) (cc := cJ0_indexOf_0f7a4) (maxL := 2) (ret := (some .int)) (by decide) rfl rfl (Nat.le_of_ble_eq_true rfl) (fun X hX hr => mJ0_indexOf_0f7a4 hk hX hr h)

