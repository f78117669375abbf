/-! printed by dec.py: Text 0 -/
theorem inX5_become_5 : ∀ w ∈ u_ws RX5 TX5 2, w ∈ wsX5_become := by
  intro w h; unfold wsX5_become; simp only [List.mem_cons, List.mem_append]; simp only [h, true_or, or_true]
theorem lkX5_become_9 : Cond.fieldLink RX5 9 (TX5 0).1 (TX5 0).2.1 (TX5 0).2.2.1 ∈ wsX5_become := by decide +kernel
theorem mmX5_become_k19 : Cond.methodLink RX5 19 arraycopyName ∈ wsX5_become := by decide +kernel
theorem mmX5_become_nacp : Cond.native arraycopyName ∈ wsX5_become := by decide +kernel
theorem mmX5_become_stcp : Cond.static arraycopyName ∈ wsX5_become := by decide +kernel
theorem mmX5_become_isy : Cond.initialized "java/lang/System" ∈ wsX5_become := by decide +kernel
theorem lkX5_become_15 : Cond.fieldLink RX5 15 (TX5 1).1 (TX5 1).2.1 (TX5 1).2.2.1 ∈ wsX5_become := by decide +kernel
def fX5_become (p : Nat) (a0 : Nat) (x2 : Int32) (M : Mem) : Option (Mem) :=
  (nq_cp M a0 50 (0 : Int32) (p + 1) 50 (0 : Int32) x2).bind fun M1 =>
  nq_lt (nq_wr M1 p 1 x2) fun M2 =>
  some M2
set_option maxHeartbeats 4000000 in
theorem mX5_become {X : Cx} {E : Ev} {l : Launch} {K : List Sh} {p : Nat} {a0 : Nat} {x2 : Int32} {M : Mem} {M' : Mem} (hL : nq_atText E K p) (ha0 : K[a0]? = some (.inl (0, 50))) (hX : nq_OK X E l (nq_rm 2) cX5_become 3 RX5 wsX5_become) (hr : nq_RT X E none none K M') (h : fX5_become p a0 x2 M = some M') : nq_G X E 3 0 [(0, .ref (nq_ad E p)), (1, .ref (nq_ad E a0)), (2, .int x2)] [] K M := by
  unfold fX5_become at h
  refine nq_aload_n hX rfl 1 rfl dX5_become_0 ?_
  refine nq_iconst hX (v := 0) (by decide) dX5_become_1 ?_
  refine nq_aload_n hX rfl 0 rfl dX5_become_2 ?_
  refine nq_getr (v := .ref (nq_ad E (p + 1))) hX inX5_become_5 (nq_Text_0 hL) rfl 0 (by decide) lkX5_become_9 _ rfl rfl dX5_become_3 ?_
  refine nq_iconst hX (v := 0) (by decide) dX5_become_6 ?_
  refine nq_iload_n hX rfl 2 rfl dX5_become_7 ?_
  obtain ⟨M1, e1, hi1, h⟩ := nq_cpE h
  refine nq_acopy hX mmX5_become_k19 mmX5_become_nacp mmX5_become_stcp mmX5_become_isy ha0 (nq_Text_codes hL) e1 hi1 (by decide) (Nat.le_of_ble_eq_true rfl) dX5_become_8 ?_
  refine nq_aload_n hX rfl 0 rfl dX5_become_11 ?_
  refine nq_iload_n hX rfl 2 rfl dX5_become_12 ?_
  obtain ⟨M2, eM2, h⟩ := nq_ltE h
  refine nq_puti hX inX5_become_5 tyX5 tyX5_ok nmX5 (nq_Text_0 hL) rfl 1 (by decide) lkX5_become_15 rfl rfl rfl rfl rfl eM2 dX5_become_13 ?_
  obtain rfl := nq_sE1 h; exact nq_vret hX hr dX5_become_16
theorem dsX5_become : yX5_become.cls ≠ "java/lang/invoke/MethodHandle" ∧ yX5_become.cls ≠ "java/lang/invoke/VarHandle" ∧ (parseMethodDescriptor yX5_become.desc).map (fun d => d.parameters.length) = some 2 := by decide +kernel
theorem tX5_become {l : Launch} {E : Ev} {K : List Sh} {p : Nat} {a0 : Nat} {x2 : Int32} {M : Mem} {M' : Mem} (hL : nq_atText E K p) (ha0 : K[a0]? = some (.inl (0, 50))) (h : fX5_become p a0 x2 M = some M') : nq_MA l E yX5_become wsX5_become (nq_rm 2) [.ref (nq_ad E p), .ref (nq_ad E a0), .int x2] K M none K M' :=
  nq_met (own := RX5) (cc := cX5_become) (maxL := 3) (ret := none) (by decide) rfl rfl (Nat.le_of_ble_eq_true rfl) (fun X hX hr => mX5_become hL ha0 hX hr h)

def fX5_valueOf (a1 : Nat) (x0 : Int32) (M : Mem) : Option (Int32) :=
  nq_lt ((x0 - (10000 : Int32))) fun v1 =>
  if 0 ≤ v1 then
  (if (5 : Int32) ≤ v1 then
  (some (0 : Int32))
  else
  ((nq_ag (M a1) 5 v1).bind fun v4 =>
  some v4))
  else
  (some x0)
set_option maxHeartbeats 4000000 in
theorem mX5_valueOf {X : Cx} {E : Ev} {l : Launch} {K : List Sh} {a1 : Nat} {x0 : Int32} {M : Mem} {r : Int32} (ha1 : K[a1]? = some (.inl (0, 5))) (hX : nq_OK X E l (nq_rm 1) cX5_valueOf 3 RX5 wsX5_valueOf) (hr : nq_RT X E (some .int) (some (.int r)) K M) (h : fX5_valueOf a1 x0 M = some r) : nq_G X E 3 0 [(0, .int x0), (1, .ref (nq_ad E a1))] [] K M := by
  unfold fX5_valueOf at h
  refine nq_iload_n hX rfl 0 rfl dX5_valueOf_0 ?_
  refine nq_sipush hX (v := 10000) (by decide) dX5_valueOf_1 ?_
  refine nq_isub hX dX5_valueOf_4 ?_
  obtain ⟨v1, e1, h⟩ := nq_ltE h
  refine nq_istore_n hX (lv' := [(2, .int v1), (0, .int x0), (1, .ref (nq_ad E a1))]) rfl (by decide) e1 rfl dX5_valueOf_5 ?_
  refine nq_iload_n hX rfl 0 rfl dX5_valueOf_6 ?_
  refine nq_if_ge hX (tgt := 12) (by decide) dX5_valueOf_7 (fun c2 => ?_) (fun c2 => ?_)
  · rw [if_pos c2] at h
    refine nq_iload_n hX rfl 0 rfl dX5_valueOf_12 ?_
    refine nq_aload_n hX rfl 2 rfl dX5_valueOf_13 ?_
    refine nq_alen hX (v := 5) ha1 rfl (by decide) dX5_valueOf_14 ?_
    refine nq_icmp_ge hX (tgt := 24) (by decide) dX5_valueOf_15 (fun c3 => ?_) (fun c3 => ?_)
    · rw [if_pos c3] at h
      refine nq_iconst hX (v := 0) (by decide) dX5_valueOf_24 ?_
      obtain rfl := nq_sE1 h; exact nq_iret hX hr dX5_valueOf_25
    · rw [if_neg c3] at h
      refine nq_aload_n hX rfl 2 rfl dX5_valueOf_18 ?_
      refine nq_iload_n hX rfl 0 rfl dX5_valueOf_19 ?_
      obtain ⟨v4, e4, hi4, h⟩ := nq_agE h
      refine nq_iald hX ha1 e4 hi4 dX5_valueOf_20 ?_
      refine nq_goto hX (tgt := 25) (by decide) dX5_valueOf_21 ?_
      obtain rfl := nq_sE1 h; exact nq_iret hX hr dX5_valueOf_25
  · rw [if_neg c2] at h
    refine nq_iload_n hX rfl 1 rfl dX5_valueOf_10 ?_
    obtain rfl := nq_sE1 h; exact nq_iret hX hr dX5_valueOf_11
theorem dsX5_valueOf : yX5_valueOf.cls ≠ "java/lang/invoke/MethodHandle" ∧ yX5_valueOf.cls ≠ "java/lang/invoke/VarHandle" ∧ (parseMethodDescriptor yX5_valueOf.desc).map (fun d => d.parameters.length) = some 2 := by decide +kernel
theorem tX5_valueOf {l : Launch} {E : Ev} {K : List Sh} {a1 : Nat} {x0 : Int32} {M : Mem} {r : Int32} (ha1 : K[a1]? = some (.inl (0, 5))) (h : fX5_valueOf a1 x0 M = some r) : nq_MA l E yX5_valueOf wsX5_valueOf (nq_rm 1) [.int x0, .ref (nq_ad E a1)] K M (some (.int r)) K M :=
  nq_met (own := RX5) (cc := cX5_valueOf) (maxL := 3) (ret := (some .int)) (by decide) rfl rfl (Nat.le_of_ble_eq_true rfl) (fun X hX hr => mX5_valueOf ha1 hX hr h)

def fX5_join (x0 : Int32) (x1 : Int32) (x2 : Int32) (M : Mem) : Option (Int32) :=
  if x0 = 37 then
  (if x2 = 0 then
  (some (0 : Int32))
  else
  ((nq_rem x1 x2).bind fun v3 =>
  some v3))
  else if x0 = 38 then
  (if x1 = 0 then
  (some (0 : Int32))
  else
  (if x2 = 0 then
  (some (0 : Int32))
  else
  (some (1 : Int32))))
  else if x0 = 42 then
  (some (x1 * x2))
  else if x0 = 43 then
  (some (x1 + x2))
  else if x0 = 45 then
  (some (x1 - x2))
  else if x0 = 47 then
  (if x2 = 0 then
  (some (0 : Int32))
  else
  ((nq_dv x1 x2).bind fun v7 =>
  some v7))
  else if x0 = 60 then
  (if x2 ≤ x1 then
  (some (0 : Int32))
  else
  (some (1 : Int32)))
  else if x0 = 61 then
  (if x1 = x2 then
  (some (1 : Int32))
  else
  (some (0 : Int32)))
  else if x0 = 62 then
  (if x1 ≤ x2 then
  (some (0 : Int32))
  else
  (some (1 : Int32)))
  else if x0 = 124 then
  (if x1 = 0 then
  (if x2 = 0 then
  (some (0 : Int32))
  else
  (some (1 : Int32)))
  else
  (some (1 : Int32)))
  else (some (0 : Int32))
set_option maxHeartbeats 4000000 in
theorem mX5_join {X : Cx} {E : Ev} {l : Launch} {K : List Sh} {x0 : Int32} {x1 : Int32} {x2 : Int32} {M : Mem} {r : Int32}  (hX : nq_OK X E l (nq_rm 1) cX5_join 3 RX5 wsX5_join) (hr : nq_RT X E (some .int) (some (.int r)) K M) (h : fX5_join x0 x1 x2 M = some r) : nq_G X E 3 0 [(0, .int x0), (1, .int x1), (2, .int x2)] [] K M := by
  unfold fX5_join at h
  refine nq_iload_n hX rfl 0 rfl dX5_join_0 ?_
  by_cases c1_37 : x0 = 37
  · rw [if_pos c1_37] at h; refine nq_look hX (tgt := 177) (off := 176) dX5_join_1 (by decide) (by rw [c1_37]; rfl) (by decide) ?_
    refine nq_iload_n hX rfl 2 rfl dX5_join_177 ?_
    refine nq_if_ne hX (tgt := 185) (by decide) dX5_join_178 (fun c2 => ?_) (fun c2 => ?_)
    · rw [if_pos c2] at h
      refine nq_iconst hX (v := 0) (by decide) dX5_join_181 ?_
      refine nq_goto hX (tgt := 188) (by decide) dX5_join_182 ?_
      obtain rfl := nq_sE1 h; exact nq_iret hX hr dX5_join_188
    · rw [if_neg c2] at h
      refine nq_iload_n hX rfl 1 rfl dX5_join_185 ?_
      refine nq_iload_n hX rfl 2 rfl dX5_join_186 ?_
      obtain ⟨v3, e3, hn3, h⟩ := nq_ifE h
      refine nq_irem hX hn3 e3 dX5_join_187 ?_
      obtain rfl := nq_sE1 h; exact nq_iret hX hr dX5_join_188
  rw [if_neg c1_37] at h
  by_cases c1_38 : x0 = 38
  · rw [if_pos c1_38] at h; refine nq_look hX (tgt := 106) (off := 105) dX5_join_1 (by decide) (by rw [c1_38]; rfl) (by decide) ?_
    refine nq_iload_n hX rfl 1 rfl dX5_join_106 ?_
    refine nq_if_eq hX (tgt := 118) (by decide) dX5_join_107 (fun c4 => ?_) (fun c4 => ?_)
    · rw [if_pos c4] at h
      refine nq_iconst hX (v := 0) (by decide) dX5_join_118 ?_
      obtain rfl := nq_sE1 h; exact nq_iret hX hr dX5_join_119
    · rw [if_neg c4] at h
      refine nq_iload_n hX rfl 2 rfl dX5_join_110 ?_
      refine nq_if_eq hX (tgt := 118) (by decide) dX5_join_111 (fun c5 => ?_) (fun c5 => ?_)
      · rw [if_pos c5] at h
        refine nq_iconst hX (v := 0) (by decide) dX5_join_118 ?_
        obtain rfl := nq_sE1 h; exact nq_iret hX hr dX5_join_119
      · rw [if_neg c5] at h
        refine nq_iconst hX (v := 1) (by decide) dX5_join_114 ?_
        refine nq_goto hX (tgt := 119) (by decide) dX5_join_115 ?_
        obtain rfl := nq_sE1 h; exact nq_iret hX hr dX5_join_119
  rw [if_neg c1_38] at h
  by_cases c1_42 : x0 = 42
  · rw [if_pos c1_42] at h; refine nq_look hX (tgt := 161) (off := 160) dX5_join_1 (by decide) (by rw [c1_42]; rfl) (by decide) ?_
    refine nq_iload_n hX rfl 1 rfl dX5_join_161 ?_
    refine nq_iload_n hX rfl 2 rfl dX5_join_162 ?_
    refine nq_imul hX dX5_join_163 ?_
    obtain rfl := nq_sE1 h; exact nq_iret hX hr dX5_join_164
  rw [if_neg c1_42] at h
  by_cases c1_43 : x0 = 43
  · rw [if_pos c1_43] at h; refine nq_look hX (tgt := 153) (off := 152) dX5_join_1 (by decide) (by rw [c1_43]; rfl) (by decide) ?_
    refine nq_iload_n hX rfl 1 rfl dX5_join_153 ?_
    refine nq_iload_n hX rfl 2 rfl dX5_join_154 ?_
    refine nq_iadd hX dX5_join_155 ?_
    obtain rfl := nq_sE1 h; exact nq_iret hX hr dX5_join_156
  rw [if_neg c1_43] at h
  by_cases c1_45 : x0 = 45
  · rw [if_pos c1_45] at h; refine nq_look hX (tgt := 157) (off := 156) dX5_join_1 (by decide) (by rw [c1_45]; rfl) (by decide) ?_
    refine nq_iload_n hX rfl 1 rfl dX5_join_157 ?_
    refine nq_iload_n hX rfl 2 rfl dX5_join_158 ?_
    refine nq_isub hX dX5_join_159 ?_
    obtain rfl := nq_sE1 h; exact nq_iret hX hr dX5_join_160
  rw [if_neg c1_45] at h
  by_cases c1_47 : x0 = 47
  · rw [if_pos c1_47] at h; refine nq_look hX (tgt := 165) (off := 164) dX5_join_1 (by decide) (by rw [c1_47]; rfl) (by decide) ?_
    refine nq_iload_n hX rfl 2 rfl dX5_join_165 ?_
    refine nq_if_ne hX (tgt := 173) (by decide) dX5_join_166 (fun c6 => ?_) (fun c6 => ?_)
    · rw [if_pos c6] at h
      refine nq_iconst hX (v := 0) (by decide) dX5_join_169 ?_
      refine nq_goto hX (tgt := 176) (by decide) dX5_join_170 ?_
      obtain rfl := nq_sE1 h; exact nq_iret hX hr dX5_join_176
    · rw [if_neg c6] at h
      refine nq_iload_n hX rfl 1 rfl dX5_join_173 ?_
      refine nq_iload_n hX rfl 2 rfl dX5_join_174 ?_
      obtain ⟨v7, e7, hn7, h⟩ := nq_ifE h
      refine nq_idiv hX hn7 e7 dX5_join_175 ?_
      obtain rfl := nq_sE1 h; exact nq_iret hX hr dX5_join_176
  rw [if_neg c1_47] at h
  by_cases c1_60 : x0 = 60
  · rw [if_pos c1_60] at h; refine nq_look hX (tgt := 120) (off := 119) dX5_join_1 (by decide) (by rw [c1_60]; rfl) (by decide) ?_
    refine nq_iload_n hX rfl 1 rfl dX5_join_120 ?_
    refine nq_iload_n hX rfl 2 rfl dX5_join_121 ?_
    refine nq_icmp_ge hX (tgt := 129) (by decide) dX5_join_122 (fun c8 => ?_) (fun c8 => ?_)
    · rw [if_pos c8] at h
      refine nq_iconst hX (v := 0) (by decide) dX5_join_129 ?_
      obtain rfl := nq_sE1 h; exact nq_iret hX hr dX5_join_130
    · rw [if_neg c8] at h
      refine nq_iconst hX (v := 1) (by decide) dX5_join_125 ?_
      refine nq_goto hX (tgt := 130) (by decide) dX5_join_126 ?_
      obtain rfl := nq_sE1 h; exact nq_iret hX hr dX5_join_130
  rw [if_neg c1_60] at h
  by_cases c1_61 : x0 = 61
  · rw [if_pos c1_61] at h; refine nq_look hX (tgt := 131) (off := 130) dX5_join_1 (by decide) (by rw [c1_61]; rfl) (by decide) ?_
    refine nq_iload_n hX rfl 1 rfl dX5_join_131 ?_
    refine nq_iload_n hX rfl 2 rfl dX5_join_132 ?_
    refine nq_icmp_ne hX (tgt := 140) (by decide) dX5_join_133 (fun c9 => ?_) (fun c9 => ?_)
    · rw [if_pos c9] at h
      refine nq_iconst hX (v := 1) (by decide) dX5_join_136 ?_
      refine nq_goto hX (tgt := 141) (by decide) dX5_join_137 ?_
      obtain rfl := nq_sE1 h; exact nq_iret hX hr dX5_join_141
    · rw [if_neg c9] at h
      refine nq_iconst hX (v := 0) (by decide) dX5_join_140 ?_
      obtain rfl := nq_sE1 h; exact nq_iret hX hr dX5_join_141
  rw [if_neg c1_61] at h
  by_cases c1_62 : x0 = 62
  · rw [if_pos c1_62] at h; refine nq_look hX (tgt := 142) (off := 141) dX5_join_1 (by decide) (by rw [c1_62]; rfl) (by decide) ?_
    refine nq_iload_n hX rfl 1 rfl dX5_join_142 ?_
    refine nq_iload_n hX rfl 2 rfl dX5_join_143 ?_
    refine nq_icmp_le hX (tgt := 151) (by decide) dX5_join_144 (fun c10 => ?_) (fun c10 => ?_)
    · rw [if_pos c10] at h
      refine nq_iconst hX (v := 0) (by decide) dX5_join_151 ?_
      obtain rfl := nq_sE1 h; exact nq_iret hX hr dX5_join_152
    · rw [if_neg c10] at h
      refine nq_iconst hX (v := 1) (by decide) dX5_join_147 ?_
      refine nq_goto hX (tgt := 152) (by decide) dX5_join_148 ?_
      obtain rfl := nq_sE1 h; exact nq_iret hX hr dX5_join_152
  rw [if_neg c1_62] at h
  by_cases c1_124 : x0 = 124
  · rw [if_pos c1_124] at h; refine nq_look hX (tgt := 92) (off := 91) dX5_join_1 (by decide) (by rw [c1_124]; rfl) (by decide) ?_
    refine nq_iload_n hX rfl 1 rfl dX5_join_92 ?_
    refine nq_if_ne hX (tgt := 100) (by decide) dX5_join_93 (fun c11 => ?_) (fun c11 => ?_)
    · rw [if_pos c11] at h
      refine nq_iload_n hX rfl 2 rfl dX5_join_96 ?_
      refine nq_if_eq hX (tgt := 104) (by decide) dX5_join_97 (fun c12 => ?_) (fun c12 => ?_)
      · rw [if_pos c12] at h
        refine nq_iconst hX (v := 0) (by decide) dX5_join_104 ?_
        obtain rfl := nq_sE1 h; exact nq_iret hX hr dX5_join_105
      · rw [if_neg c12] at h
        refine nq_iconst hX (v := 1) (by decide) dX5_join_100 ?_
        refine nq_goto hX (tgt := 105) (by decide) dX5_join_101 ?_
        obtain rfl := nq_sE1 h; exact nq_iret hX hr dX5_join_105
    · rw [if_neg c11] at h
      refine nq_iconst hX (v := 1) (by decide) dX5_join_100 ?_
      refine nq_goto hX (tgt := 105) (by decide) dX5_join_101 ?_
      obtain rfl := nq_sE1 h; exact nq_iret hX hr dX5_join_105
  rw [if_neg c1_124] at h
  refine nq_look hX (tgt := 189) (off := 188) dX5_join_1 (by decide) (by have z37 := nq_tnf (k := 37) (n := 37) (by decide) c1_37; have z38 := nq_tnf (k := 38) (n := 38) (by decide) c1_38; have z42 := nq_tnf (k := 42) (n := 42) (by decide) c1_42; have z43 := nq_tnf (k := 43) (n := 43) (by decide) c1_43; have z45 := nq_tnf (k := 45) (n := 45) (by decide) c1_45; have z47 := nq_tnf (k := 47) (n := 47) (by decide) c1_47; have z60 := nq_tnf (k := 60) (n := 60) (by decide) c1_60; have z61 := nq_tnf (k := 61) (n := 61) (by decide) c1_61; have z62 := nq_tnf (k := 62) (n := 62) (by decide) c1_62; have z124 := nq_tnf (k := 124) (n := 124) (by decide) c1_124; simp [Op.lookupswitch.offset, *]) (by decide) ?_
  refine nq_iconst hX (v := 0) (by decide) dX5_join_189 ?_
  obtain rfl := nq_sE1 h; exact nq_iret hX hr dX5_join_190
theorem dsX5_join : yX5_join.cls ≠ "java/lang/invoke/MethodHandle" ∧ yX5_join.cls ≠ "java/lang/invoke/VarHandle" ∧ (parseMethodDescriptor yX5_join.desc).map (fun d => d.parameters.length) = some 3 := by decide +kernel
theorem tX5_join {l : Launch} {E : Ev} {K : List Sh} {x0 : Int32} {x1 : Int32} {x2 : Int32} {M : Mem} {r : Int32}  (h : fX5_join x0 x1 x2 M = some r) : nq_MA l E yX5_join wsX5_join (nq_rm 1) [.int x0, .int x1, .int x2] K M (some (.int r)) K M :=
  nq_met (own := RX5) (cc := cX5_join) (maxL := 3) (ret := (some .int)) (by decide) rfl rfl (Nat.le_of_ble_eq_true rfl) (fun X hX hr => mX5_join  hX hr h)

theorem inX5_reckon_5 : ∀ w ∈ u_ws RX5 TX5 2, w ∈ wsX5_reckon := by
  intro w h; unfold wsX5_reckon; simp only [List.mem_cons, List.mem_append]; simp only [h, true_or, or_true]
theorem lkX5_reckon_15 : Cond.fieldLink RX5 15 (TX5 1).1 (TX5 1).2.1 (TX5 1).2.2.1 ∈ wsX5_reckon := by decide +kernel
theorem lkX5_reckon_9 : Cond.fieldLink RX5 9 (TX5 0).1 (TX5 0).2.1 (TX5 0).2.2.1 ∈ wsX5_reckon := by decide +kernel
def fX5_reckon_L85_9 (p : Nat) (a0 : Nat) (a1 : Nat) (x3 : Int32) (x4 : Int32) (x5 : Int32) (M : Mem) : Option ((Int32 × Int32 × Mem) ⊕ (Mem)) :=
  if x3 ≤ (1 : Int32) then
  (nq_lt (x4 + (1 : Int32)) fun v9 =>
  some (.inl (x3, v9, M)))
  else
  (nq_lt (x3 + (-1 : Int32)) fun v10 =>
  (nq_ag (M a1) 50 (v10 - (1 : Int32))).bind fun v11 =>
  (nq_ag (M a1) 50 v10).bind fun v12 =>
  (fX5_join (-x5) v11 v12 M).bind fun v14 =>
  (nq_as M a1 50 (v10 - (1 : Int32)) v14).bind fun M15 =>
  nq_lt (x4 + (1 : Int32)) fun v16 =>
  some (.inl (v10, v16, M15)))
set_option maxHeartbeats 4000000 in
theorem mX5_reckon_L85_9 {X : Cx} {E : Ev} {l : Launch} {K : List Sh} {p : Nat} {a0 : Nat} {a1 : Nat} {x3 : Int32} {x4 : Int32} {x5 : Int32} {M : Mem} (hL : nq_atText E K p) (ha0 : K[a0]? = some (.inl (0, 5))) (ha1 : K[a1]? = some (.inl (0, 50))) (hX : nq_OK X E l (nq_rm 2) cX5_reckon 6 RX5 wsX5_reckon) {x : (Int32 × Int32 × Mem) ⊕ (Mem)} (hc : ∀ s' : Int32 × Int32 × Mem, x = .inl s' → nq_G X E 6 9 [(0, .ref (nq_ad E p)), (1, .ref (nq_ad E a0)), (2, .ref (nq_ad E a1)), (3, .int s'.1), (4, .int s'.2.1)] [] K s'.2.2) (he : ∀ s' : Mem, x = .inr s' → nq_G X E 6 118 [(2, .ref (nq_ad E a1))] [] K s') (h : fX5_reckon_L85_9 p a0 a1 x3 x4 x5 M = some x) : nq_G X E 6 85 [(0, .ref (nq_ad E p)), (1, .ref (nq_ad E a0)), (2, .ref (nq_ad E a1)), (3, .int x3), (4, .int x4), (5, .int x5)] [] K M := by
  unfold fX5_reckon_L85_9 at h
  refine nq_iload_n hX rfl 3 rfl dX5_reckon_85 ?_
  refine nq_iconst hX (v := 1) (by decide) dX5_reckon_86 ?_
  refine nq_icmp_le hX (tgt := 112) (by decide) dX5_reckon_87 (fun c8 => ?_) (fun c8 => ?_)
  · rw [if_pos c8] at h
    obtain ⟨v9, e9, h⟩ := nq_ltE h
    refine nq_iinc hX (lv' := [(4, .int v9), (0, .ref (nq_ad E p)), (1, .ref (nq_ad E a0)), (2, .ref (nq_ad E a1)), (3, .int x3), (5, .int x5)]) (j := 4) rfl (e9.trans rfl) (by decide) rfl dX5_reckon_112 ?_
    refine nq_goto hX (tgt := 9) (by decide) dX5_reckon_115 ?_
    refine nq_sub (lv' := [(0, .ref (nq_ad E p)), (1, .ref (nq_ad E a0)), (2, .ref (nq_ad E a1)), (3, .int x3), (4, .int v9)]) [1, 2, 3, 4, 0] rfl ?_
    exact hc (x3, v9, M) (nq_sE h).symm
  · rw [if_neg c8] at h
    obtain ⟨v10, e10, h⟩ := nq_ltE h
    refine nq_iinc hX (lv' := [(3, .int v10), (0, .ref (nq_ad E p)), (1, .ref (nq_ad E a0)), (2, .ref (nq_ad E a1)), (4, .int x4), (5, .int x5)]) (j := 3) rfl (e10.trans (by rw [nq_om1])) (by decide) rfl dX5_reckon_90 ?_
    refine nq_aload_n hX rfl 3 rfl dX5_reckon_93 ?_
    refine nq_iload_n hX rfl 0 rfl dX5_reckon_94 ?_
    refine nq_iconst hX (v := 1) (by decide) dX5_reckon_95 ?_
    refine nq_isub hX dX5_reckon_96 ?_
    refine nq_iload hX 5 rfl dX5_reckon_97 ?_
    refine nq_ineg hX dX5_reckon_99 ?_
    refine nq_aload_n hX rfl 3 rfl dX5_reckon_100 ?_
    refine nq_iload_n hX rfl 0 rfl dX5_reckon_101 ?_
    refine nq_iconst hX (v := 1) (by decide) dX5_reckon_102 ?_
    refine nq_isub hX dX5_reckon_103 ?_
    obtain ⟨v11, e11, hi11, h⟩ := nq_agE h
    refine nq_iald hX ha1 e11 hi11 dX5_reckon_104 ?_
    refine nq_aload_n hX rfl 3 rfl dX5_reckon_105 ?_
    refine nq_iload_n hX rfl 0 rfl dX5_reckon_106 ?_
    obtain ⟨v12, e12, hi12, h⟩ := nq_agE h
    refine nq_iald hX ha1 e12 hi12 dX5_reckon_107 ?_
    obtain ⟨v14, hc13, h⟩ := nq_bE h
    refine nq_callSi hX (tX5_join  hc13) gX5_reckon_X5_join rfl rfl dsX5_join (by decide) rfl (Nat.le_of_ble_eq_true rfl) dX5_reckon_108 ?_
    obtain ⟨M15, e15, hi15, h⟩ := nq_asE h
    refine nq_iast hX ha1 e15 hi15 dX5_reckon_111 ?_
    obtain ⟨v16, e16, h⟩ := nq_ltE h
    refine nq_iinc hX (lv' := [(4, .int v16), (3, .int v10), (0, .ref (nq_ad E p)), (1, .ref (nq_ad E a0)), (2, .ref (nq_ad E a1)), (5, .int x5)]) (j := 4) rfl (e16.trans rfl) (by decide) rfl dX5_reckon_112 ?_
    refine nq_goto hX (tgt := 9) (by decide) dX5_reckon_115 ?_
    refine nq_sub (lv' := [(0, .ref (nq_ad E p)), (1, .ref (nq_ad E a0)), (2, .ref (nq_ad E a1)), (3, .int v10), (4, .int v16)]) [2, 3, 4, 1, 0] rfl ?_
    exact hc (v10, v16, M15) (nq_sE h).symm
def fX5_reckon_L53_9 (p : Nat) (a0 : Nat) (a1 : Nat) (x3 : Int32) (x4 : Int32) (x5 : Int32) (M : Mem) : Option ((Int32 × Int32 × Mem) ⊕ (Mem)) :=
  if x5 = (-33 : Int32) then
  (if x3 ≤ 0 then
  (fX5_reckon_L85_9 p a0 a1 x3 x4 x5 M)
  else
  ((nq_ag (M a1) 50 (x3 - (1 : Int32))).bind fun v17 =>
  if v17 = 0 then
  ((nq_as M a1 50 (x3 - (1 : Int32)) (1 : Int32)).bind fun M19 =>
  nq_lt (x4 + (1 : Int32)) fun v20 =>
  some (.inl (x3, v20, M19)))
  else
  ((nq_as M a1 50 (x3 - (1 : Int32)) (0 : Int32)).bind fun M21 =>
  nq_lt (x4 + (1 : Int32)) fun v22 =>
  some (.inl (x3, v22, M21)))))
  else
  (fX5_reckon_L85_9 p a0 a1 x3 x4 x5 M)
set_option maxHeartbeats 4000000 in
theorem mX5_reckon_L53_9 {X : Cx} {E : Ev} {l : Launch} {K : List Sh} {p : Nat} {a0 : Nat} {a1 : Nat} {x3 : Int32} {x4 : Int32} {x5 : Int32} {M : Mem} (hL : nq_atText E K p) (ha0 : K[a0]? = some (.inl (0, 5))) (ha1 : K[a1]? = some (.inl (0, 50))) (hX : nq_OK X E l (nq_rm 2) cX5_reckon 6 RX5 wsX5_reckon) {x : (Int32 × Int32 × Mem) ⊕ (Mem)} (hc : ∀ s' : Int32 × Int32 × Mem, x = .inl s' → nq_G X E 6 9 [(0, .ref (nq_ad E p)), (1, .ref (nq_ad E a0)), (2, .ref (nq_ad E a1)), (3, .int s'.1), (4, .int s'.2.1)] [] K s'.2.2) (he : ∀ s' : Mem, x = .inr s' → nq_G X E 6 118 [(2, .ref (nq_ad E a1))] [] K s') (h : fX5_reckon_L53_9 p a0 a1 x3 x4 x5 M = some x) : nq_G X E 6 53 [(0, .ref (nq_ad E p)), (1, .ref (nq_ad E a0)), (2, .ref (nq_ad E a1)), (3, .int x3), (4, .int x4), (5, .int x5)] [] K M := by
  unfold fX5_reckon_L53_9 at h
  refine nq_iload hX 5 rfl dX5_reckon_53 ?_
  refine nq_bipush hX (v := -33) (by decide) dX5_reckon_55 ?_
  refine nq_icmp_ne hX (tgt := 85) (by decide) dX5_reckon_57 (fun c6 => ?_) (fun c6 => ?_)
  · rw [if_pos c6] at h
    refine nq_iload_n hX rfl 3 rfl dX5_reckon_60 ?_
    refine nq_if_le hX (tgt := 85) (by decide) dX5_reckon_61 (fun c7 => ?_) (fun c7 => ?_)
    · rw [if_pos c7] at h
      exact mX5_reckon_L85_9 hL ha0 ha1 hX hc he h
    · rw [if_neg c7] at h
      refine nq_aload_n hX rfl 2 rfl dX5_reckon_64 ?_
      refine nq_iload_n hX rfl 3 rfl dX5_reckon_65 ?_
      refine nq_iconst hX (v := 1) (by decide) dX5_reckon_66 ?_
      refine nq_isub hX dX5_reckon_67 ?_
      refine nq_aload_n hX rfl 2 rfl dX5_reckon_68 ?_
      refine nq_iload_n hX rfl 3 rfl dX5_reckon_69 ?_
      refine nq_iconst hX (v := 1) (by decide) dX5_reckon_70 ?_
      refine nq_isub hX dX5_reckon_71 ?_
      obtain ⟨v17, e17, hi17, h⟩ := nq_agE h
      refine nq_iald hX ha1 e17 hi17 dX5_reckon_72 ?_
      refine nq_if_ne hX (tgt := 80) (by decide) dX5_reckon_73 (fun c18 => ?_) (fun c18 => ?_)
      · rw [if_pos c18] at h
        refine nq_iconst hX (v := 1) (by decide) dX5_reckon_76 ?_
        refine nq_goto hX (tgt := 81) (by decide) dX5_reckon_77 ?_
        obtain ⟨M19, e19, hi19, h⟩ := nq_asE h
        refine nq_iast hX ha1 e19 hi19 dX5_reckon_81 ?_
        refine nq_goto hX (tgt := 112) (by decide) dX5_reckon_82 ?_
        obtain ⟨v20, e20, h⟩ := nq_ltE h
        refine nq_iinc hX (lv' := [(4, .int v20), (0, .ref (nq_ad E p)), (1, .ref (nq_ad E a0)), (2, .ref (nq_ad E a1)), (3, .int x3), (5, .int x5)]) (j := 4) rfl (e20.trans rfl) (by decide) rfl dX5_reckon_112 ?_
        refine nq_goto hX (tgt := 9) (by decide) dX5_reckon_115 ?_
        refine nq_sub (lv' := [(0, .ref (nq_ad E p)), (1, .ref (nq_ad E a0)), (2, .ref (nq_ad E a1)), (3, .int x3), (4, .int v20)]) [1, 2, 3, 4, 0] rfl ?_
        exact hc (x3, v20, M19) (nq_sE h).symm
      · rw [if_neg c18] at h
        refine nq_iconst hX (v := 0) (by decide) dX5_reckon_80 ?_
        obtain ⟨M21, e21, hi21, h⟩ := nq_asE h
        refine nq_iast hX ha1 e21 hi21 dX5_reckon_81 ?_
        refine nq_goto hX (tgt := 112) (by decide) dX5_reckon_82 ?_
        obtain ⟨v22, e22, h⟩ := nq_ltE h
        refine nq_iinc hX (lv' := [(4, .int v22), (0, .ref (nq_ad E p)), (1, .ref (nq_ad E a0)), (2, .ref (nq_ad E a1)), (3, .int x3), (5, .int x5)]) (j := 4) rfl (e22.trans rfl) (by decide) rfl dX5_reckon_112 ?_
        refine nq_goto hX (tgt := 9) (by decide) dX5_reckon_115 ?_
        refine nq_sub (lv' := [(0, .ref (nq_ad E p)), (1, .ref (nq_ad E a0)), (2, .ref (nq_ad E a1)), (3, .int x3), (4, .int v22)]) [1, 2, 3, 4, 0] rfl ?_
        exact hc (x3, v22, M21) (nq_sE h).symm
  · rw [if_neg c6] at h
    exact mX5_reckon_L85_9 hL ha0 ha1 hX hc he h
def fX5_reckon_B9 (p : Nat) (a0 : Nat) (a1 : Nat) (x3 : Int32) (x4 : Int32) (M : Mem) : Option ((Int32 × Int32 × Mem) ⊕ (Mem)) :=
  nq_lt (M p 1) fun v2 =>
  if v2 ≤ x4 then
  (some (.inr M))
  else
  ((nq_ag (M (p + 1)) 50 x4).bind fun v4 =>
  if v4 < 0 then
  (fX5_reckon_L53_9 p a0 a1 x3 x4 v4 M)
  else
  (if (50 : Int32) ≤ x3 then
  (fX5_reckon_L53_9 p a0 a1 x3 x4 v4 M)
  else
  ((fX5_valueOf a0 v4 M).bind fun v25 =>
  (nq_as M a1 50 x3 v25).bind fun M26 =>
  nq_lt (x3 + (1 : Int32)) fun v27 =>
  nq_lt (x4 + (1 : Int32)) fun v28 =>
  some (.inl (v27, v28, M26)))))
set_option maxHeartbeats 4000000 in
theorem mX5_reckon_B9 {X : Cx} {E : Ev} {l : Launch} {K : List Sh} {p : Nat} {a0 : Nat} {a1 : Nat} {x3 : Int32} {x4 : Int32} {M : Mem} (hL : nq_atText E K p) (ha0 : K[a0]? = some (.inl (0, 5))) (ha1 : K[a1]? = some (.inl (0, 50))) (hX : nq_OK X E l (nq_rm 2) cX5_reckon 6 RX5 wsX5_reckon) {x : (Int32 × Int32 × Mem) ⊕ (Mem)} (hc : ∀ s' : Int32 × Int32 × Mem, x = .inl s' → nq_G X E 6 9 [(0, .ref (nq_ad E p)), (1, .ref (nq_ad E a0)), (2, .ref (nq_ad E a1)), (3, .int s'.1), (4, .int s'.2.1)] [] K s'.2.2) (he : ∀ s' : Mem, x = .inr s' → nq_G X E 6 118 [(2, .ref (nq_ad E a1))] [] K s') (h : fX5_reckon_B9 p a0 a1 x3 x4 M = some x) : nq_G X E 6 9 [(0, .ref (nq_ad E p)), (1, .ref (nq_ad E a0)), (2, .ref (nq_ad E a1)), (3, .int x3), (4, .int x4)] [] K M := by
  unfold fX5_reckon_B9 at h
  refine nq_iload hX 4 rfl dX5_reckon_9 ?_
  refine nq_aload_n hX rfl 0 rfl dX5_reckon_11 ?_
  obtain ⟨v2, e2, h⟩ := nq_ltE h
  refine nq_geti hX inX5_reckon_5 (nq_Text_0 hL) rfl 1 (by decide) lkX5_reckon_15 rfl e2 dX5_reckon_12 ?_
  refine nq_icmp_ge hX (tgt := 118) (by decide) dX5_reckon_15 (fun c3 => ?_) (fun c3 => ?_)
  · rw [if_pos c3] at h
    refine nq_sub (lv' := [(2, .ref (nq_ad E a1))]) [2] rfl ?_
    exact he M (nq_sE h).symm
  · rw [if_neg c3] at h
    refine nq_aload_n hX rfl 0 rfl dX5_reckon_18 ?_
    refine nq_getr (v := .ref (nq_ad E (p + 1))) hX inX5_reckon_5 (nq_Text_0 hL) rfl 0 (by decide) lkX5_reckon_9 _ rfl rfl dX5_reckon_19 ?_
    refine nq_iload hX 4 rfl dX5_reckon_22 ?_
    obtain ⟨v4, e4, hi4, h⟩ := nq_agE h
    refine nq_iald hX (nq_Text_codes hL) e4 hi4 dX5_reckon_24 ?_
    refine nq_istore hX (lv' := [(5, .int v4), (0, .ref (nq_ad E p)), (1, .ref (nq_ad E a0)), (2, .ref (nq_ad E a1)), (3, .int x3), (4, .int x4)]) (by decide) rfl rfl dX5_reckon_25 ?_
    refine nq_iload hX 0 rfl dX5_reckon_27 ?_
    refine nq_if_lt hX (tgt := 53) (by decide) dX5_reckon_29 (fun c5 => ?_) (fun c5 => ?_)
    · rw [if_pos c5] at h
      refine nq_sub (lv' := [(0, .ref (nq_ad E p)), (1, .ref (nq_ad E a0)), (2, .ref (nq_ad E a1)), (3, .int x3), (4, .int x4), (5, .int v4)]) [1, 2, 3, 4, 5, 0] rfl ?_
      exact mX5_reckon_L53_9 hL ha0 ha1 hX hc he h
    · rw [if_neg c5] at h
      refine nq_iload_n hX rfl 4 rfl dX5_reckon_32 ?_
      refine nq_aload_n hX rfl 3 rfl dX5_reckon_33 ?_
      refine nq_alen hX (v := 50) ha1 rfl (by decide) dX5_reckon_34 ?_
      refine nq_icmp_ge hX (tgt := 53) (by decide) dX5_reckon_35 (fun c23 => ?_) (fun c23 => ?_)
      · rw [if_pos c23] at h
        refine nq_sub (lv' := [(0, .ref (nq_ad E p)), (1, .ref (nq_ad E a0)), (2, .ref (nq_ad E a1)), (3, .int x3), (4, .int x4), (5, .int v4)]) [1, 2, 3, 4, 5, 0] rfl ?_
        exact mX5_reckon_L53_9 hL ha0 ha1 hX hc he h
      · rw [if_neg c23] at h
        refine nq_aload_n hX rfl 3 rfl dX5_reckon_38 ?_
        refine nq_iload_n hX rfl 4 rfl dX5_reckon_39 ?_
        refine nq_iload hX 0 rfl dX5_reckon_40 ?_
        refine nq_aload_n hX rfl 2 rfl dX5_reckon_42 ?_
        obtain ⟨v25, hc24, h⟩ := nq_bE h
        refine nq_callSi hX (tX5_valueOf ha0 hc24) gX5_reckon_X5_valueOf rfl rfl dsX5_valueOf (by decide) rfl (Nat.le_of_ble_eq_true rfl) dX5_reckon_43 ?_
        obtain ⟨M26, e26, hi26, h⟩ := nq_asE h
        refine nq_iast hX ha1 e26 hi26 dX5_reckon_46 ?_
        obtain ⟨v27, e27, h⟩ := nq_ltE h
        refine nq_iinc hX (lv' := [(3, .int v27), (5, .int v4), (0, .ref (nq_ad E p)), (1, .ref (nq_ad E a0)), (2, .ref (nq_ad E a1)), (4, .int x4)]) (j := 4) rfl (e27.trans rfl) (by decide) rfl dX5_reckon_47 ?_
        refine nq_goto hX (tgt := 112) (by decide) dX5_reckon_50 ?_
        obtain ⟨v28, e28, h⟩ := nq_ltE h
        refine nq_iinc hX (lv' := [(4, .int v28), (3, .int v27), (5, .int v4), (0, .ref (nq_ad E p)), (1, .ref (nq_ad E a0)), (2, .ref (nq_ad E a1))]) (j := 5) rfl (e28.trans rfl) (by decide) rfl dX5_reckon_112 ?_
        refine nq_goto hX (tgt := 9) (by decide) dX5_reckon_115 ?_
        refine nq_sub (lv' := [(0, .ref (nq_ad E p)), (1, .ref (nq_ad E a0)), (2, .ref (nq_ad E a1)), (3, .int v27), (4, .int v28)]) [3, 4, 5, 1, 0] rfl ?_
        exact hc (v27, v28, M26) (nq_sE h).symm
def fX5_reckon_L118 (p : Nat) (a0 : Nat) (a1 : Nat) (M : Mem) : Option (Int32 × Mem) :=
  (nq_ag (M a1) 50 (0 : Int32)).bind fun v29 =>
  some (v29, M)
set_option maxHeartbeats 4000000 in
theorem mX5_reckon_L118 {X : Cx} {E : Ev} {l : Launch} {K : List Sh} {p : Nat} {a0 : Nat} {a1 : Nat} {M : Mem} {r : Int32} {M' : Mem} (hL : nq_atText E K p) (ha0 : K[a0]? = some (.inl (0, 5))) (ha1 : K[a1]? = some (.inl (0, 50))) (hX : nq_OK X E l (nq_rm 2) cX5_reckon 6 RX5 wsX5_reckon) (hr : nq_RT X E (some .int) (some (.int r)) K M') (h : fX5_reckon_L118 p a0 a1 M = some (r, M')) : nq_G X E 6 118 [(2, .ref (nq_ad E a1))] [] K M := by
  unfold fX5_reckon_L118 at h
  refine nq_aload_n hX rfl 0 rfl dX5_reckon_118 ?_
  refine nq_iconst hX (v := 0) (by decide) dX5_reckon_119 ?_
  obtain ⟨v29, e29, hi29, h⟩ := nq_agE h
  refine nq_iald hX ha1 e29 hi29 dX5_reckon_120 ?_
  obtain ⟨rfl, rfl⟩ := nq_sE2 h; exact nq_iret hX hr dX5_reckon_121
def fX5_reckon_L9 (p : Nat) (a0 : Nat) (a1 : Nat) (x3 : Int32) (x4 : Int32) (M : Mem) : Option (Int32 × Mem) :=
  (nq_lp (fun s : Int32 × Int32 × Mem => fX5_reckon_B9 p a0 a1 s.1 s.2.1 s.2.2) nq_fuel (x3, x4, M)).bind (fun e => fX5_reckon_L118 p a0 a1 e)
set_option maxHeartbeats 4000000 in
theorem mX5_reckon_L9 {X : Cx} {E : Ev} {l : Launch} {K : List Sh} {p : Nat} {a0 : Nat} {a1 : Nat} {x3 : Int32} {x4 : Int32} {M : Mem} {r : Int32} {M' : Mem} (hL : nq_atText E K p) (ha0 : K[a0]? = some (.inl (0, 5))) (ha1 : K[a1]? = some (.inl (0, 50))) (hX : nq_OK X E l (nq_rm 2) cX5_reckon 6 RX5 wsX5_reckon) (hr : nq_RT X E (some .int) (some (.int r)) K M') (h : fX5_reckon_L9 p a0 a1 x3 x4 M = some (r, M')) : nq_G X E 6 9 [(0, .ref (nq_ad E p)), (1, .ref (nq_ad E a0)), (2, .ref (nq_ad E a1)), (3, .int x3), (4, .int x4)] [] K M := by
  unfold fX5_reckon_L9 at h
  obtain ⟨e, h1, h⟩ := nq_bE h
  have key : ∀ (ex : Mem), nq_lp (fun s : Int32 × Int32 × Mem => fX5_reckon_B9 p a0 a1 s.1 s.2.1 s.2.2) nq_fuel (x3, x4, M) = some ex → (∀ e, ex = e → nq_G X E 6 118 [(2, .ref (nq_ad E a1))] [] K e) → nq_G X E 6 9 [(0, .ref (nq_ad E p)), (1, .ref (nq_ad E a0)), (2, .ref (nq_ad E a1)), (3, .int ((x3, x4, M).1)), (4, .int ((x3, x4, M).2.1))] [] K (x3, x4, M).2.2 := by
    intro ex h1 hE
    refine nq_lpE (P := fun s : Int32 × Int32 × Mem => nq_G X E 6 9 [(0, .ref (nq_ad E p)), (1, .ref (nq_ad E a0)), (2, .ref (nq_ad E a1)), (3, .int s.1), (4, .int s.2.1)] [] K s.2.2) (r := ex) ?_ nq_fuel (x3, x4, M) h1
    intro s xx hx1 hc1 he1
    exact mX5_reckon_B9 hL ha0 ha1 hX hc1 (fun e q => hE e (he1 _ q).symm) hx1
  refine key e h1 (fun e q => ?_)
  subst q
  exact mX5_reckon_L118 hL ha0 ha1 hX hr h
def fX5_reckon (p : Nat) (a0 : Nat) (a1 : Nat) (M : Mem) : Option (Int32 × Mem) :=
  (nq_as M a1 50 (0 : Int32) (0 : Int32)).bind fun M1 =>
  fX5_reckon_L9 p a0 a1 (0 : Int32) (0 : Int32) M1
set_option maxHeartbeats 4000000 in
theorem mX5_reckon {X : Cx} {E : Ev} {l : Launch} {K : List Sh} {p : Nat} {a0 : Nat} {a1 : Nat} {M : Mem} {r : Int32} {M' : Mem} (hL : nq_atText E K p) (ha0 : K[a0]? = some (.inl (0, 5))) (ha1 : K[a1]? = some (.inl (0, 50))) (hX : nq_OK X E l (nq_rm 2) cX5_reckon 6 RX5 wsX5_reckon) (hr : nq_RT X E (some .int) (some (.int r)) K M') (h : fX5_reckon p a0 a1 M = some (r, M')) : nq_G X E 6 0 [(0, .ref (nq_ad E p)), (1, .ref (nq_ad E a0)), (2, .ref (nq_ad E a1))] [] K M := by
  unfold fX5_reckon at h
  refine nq_aload_n hX rfl 2 rfl dX5_reckon_0 ?_
  refine nq_iconst hX (v := 0) (by decide) dX5_reckon_1 ?_
  refine nq_iconst hX (v := 0) (by decide) dX5_reckon_2 ?_
  obtain ⟨M1, e1, hi1, h⟩ := nq_asE h
  refine nq_iast hX ha1 e1 hi1 dX5_reckon_3 ?_
  refine nq_iconst hX (v := 0) (by decide) dX5_reckon_4 ?_
  refine nq_istore_n hX (lv' := [(3, .int (0 : Int32)), (0, .ref (nq_ad E p)), (1, .ref (nq_ad E a0)), (2, .ref (nq_ad E a1))]) rfl (by decide) rfl rfl dX5_reckon_5 ?_
  refine nq_iconst hX (v := 0) (by decide) dX5_reckon_6 ?_
  refine nq_istore hX (lv' := [(4, .int (0 : Int32)), (3, .int (0 : Int32)), (0, .ref (nq_ad E p)), (1, .ref (nq_ad E a0)), (2, .ref (nq_ad E a1))]) (by decide) rfl rfl dX5_reckon_7 ?_
  refine nq_sub (lv' := [(0, .ref (nq_ad E p)), (1, .ref (nq_ad E a0)), (2, .ref (nq_ad E a1)), (3, .int (0 : Int32)), (4, .int (0 : Int32))]) [2, 3, 4, 1, 0] rfl ?_
  exact mX5_reckon_L9 hL ha0 ha1 hX hr h
theorem dsX5_reckon : yX5_reckon.cls ≠ "java/lang/invoke/MethodHandle" ∧ yX5_reckon.cls ≠ "java/lang/invoke/VarHandle" ∧ (parseMethodDescriptor yX5_reckon.desc).map (fun d => d.parameters.length) = some 2 := by decide +kernel
theorem tX5_reckon {l : Launch} {E : Ev} {K : List Sh} {p : Nat} {a0 : Nat} {a1 : Nat} {M : Mem} {r : Int32} {M' : Mem} (hL : nq_atText E K p) (ha0 : K[a0]? = some (.inl (0, 5))) (ha1 : K[a1]? = some (.inl (0, 50))) (h : fX5_reckon p a0 a1 M = some (r, M')) : nq_MA l E yX5_reckon wsX5_reckon (nq_rm 2) [.ref (nq_ad E p), .ref (nq_ad E a0), .ref (nq_ad E a1)] K M (some (.int r)) K M' :=
  nq_met (own := RX5) (cc := cX5_reckon) (maxL := 6) (ret := (some .int)) (by decide) rfl rfl (Nat.le_of_ble_eq_true rfl) (fun X hX hr => mX5_reckon hL ha0 ha1 hX hr h)

