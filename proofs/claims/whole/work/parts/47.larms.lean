-- THE LAW: ITS ARMS
section LawArms
variable {p : Program} {l : Launch} {e : Env} {R : Room} {s : State} {m : MethodId} {args : Array Value} {below : List Frame} {meth : Method} {c : Code} {H : Heap} {locs : List Loc} {cells slots : Nat} {Q : State → Prop}
variable {bytes : ByteArray} {pc maxL nL index : Nat} {ls : Array Slot} {rest av : List Value} {A : Nat → Prop} {D : va_G} {tys : List (ClassId × FieldType)} {wc wr wc' w0 w1 : va_W} {rm : Room} {y : MethodName} {rt : FieldType} {r : Int32} {own : String} {b : Nat}
variable {cI cW cZ : ClassId}
set_option maxHeartbeats 4000000 in
set_option maxRecDepth 100000 in
theorem arm_begin {x xa xk xw b L i cc : Nat} {o o1 o2 o3 o4 o5 o6 o7 o8 o9 o10 o11 o12 : Nat} {xs : Nat → Int32} (hX : LX p s m args c D cI cW cZ) (hsc : va_X b L xs s s.heap) (hbl : b < s.heap.size) (hl : lv_has ls 4 [(0, .ref b), (1, .ref x), (2, .ref o), (3, .int (nI i))]) (hi : i + 2 < L) (hL : L ≤ 1536) (hcc : 20 ≤ cc) (hc9 : cc + 4 ≤ 1000000) (hf : cells + 5 ≤ 600000) (hg : slots + 140 ≤ 7302250) (hI : LInv D cI cW cZ x xa xk xw o o1 o2 o3 o4 o5 o6 o7 o8 o9 o10 o11 o12 s (cc + 4) H locs)
    (kk : ∀ (H1 : Heap) (locs1 : List Loc), LInv D cI cW cZ x xa xk xw o o1 o2 o3 o4 o5 o6 o7 o8 o9 o10 o11 o12 s cc H1 locs1 → W p l e room_1 s m args below meth c H1 locs1 (cells + 5) (slots + 140) Q (F0 m 416 ls [])) : W p l e room_1 s m args below meth c H locs cells slots Q (F0 m 88 ls []) := by
  obtain ⟨n, cur, ad, f, ws, sk, sl, md, hsr, hfa, hP, hD, hS⟩ := hI
  have hx := hX.1
  have hb := hX.2.1
  refine lv_aload_n hx hb d_law_88 rfl (lv_at hl 1 rfl) ?_
  refine pseg (k := 1) (kI := 1) hX hsc hbl hS hl (by omega) hL (by decide) d_law_89 d_law_90 d_law_91 d_law_92 d_law_93 ?_
  refine bseg hX d_law_94 d_law_97 d_law_98 d_law_101 ?_
  refine x_begin hX hl.1 hsr (by omega) hfa hP hD hS d_law_102 hf hg (fun n' cur' ad' f' ws' r H locs t1 t2 hfa' hP hD hS => ?_)
  refine lv_aload_n hx hb d_law_105 rfl (lv_at hl 2 rfl) ?_
  refine pseg (k := 1) (kI := 1) hX hsc hbl hS hl (by omega) hL (by decide) d_law_106 d_law_107 d_law_108 d_law_109 d_law_110 ?_
  refine bseg hX d_law_111 d_law_114 d_law_115 d_law_118 ?_
  refine m_call (av := [.int (bI (nz (xs (i + 1))))]) (rest := [.int _]) hX hl.1 (c_M_begin l D cI cZ o o1 o2 o3 o4 o5 o6 o7 o8 o9 o10 o11 o12 (nz (xs (i + 1))) md (SR_b8 hsr) _ _ (pe2 _)) hP hD hS d_law_119 rfl kc_Model_begin kl_law_17 kn_Model_begin kx_Model_begin (na := 1) rfl (by decide +kernel) ⟨Nat.le_of_ble_eq_true rfl, Nat.le_of_ble_eq_true rfl⟩ ⟨rfl, rfl⟩ (Nat.le_of_ble_eq_true rfl) (rm_c (by omega) (by omega)) (fun H locs hP hD hS => ?_)
  refine lv_icmp_eq (tgt := 416) hx hb d_law_122 (by decide) (fun _ => ?_) (fun g => absurd t1 g)
  refine W.widen (k := cells + 5) (n := slots + 140) (by omega) (by omega) ?_
  exact kk _ _ ⟨n', cur', ad', f', ws', sk, sl, _, SR_mono t2 (by omega), hfa', hP, hD, hS⟩
set_option maxHeartbeats 4000000 in
set_option maxRecDepth 100000 in
theorem arm_enter {x xa xk xw b L i cc : Nat} {o o1 o2 o3 o4 o5 o6 o7 o8 o9 o10 o11 o12 : Nat} {xs : Nat → Int32} (hX : LX p s m args c D cI cW cZ) (hsc : va_X b L xs s s.heap) (hbl : b < s.heap.size) (hl : lv_has ls 4 [(0, .ref b), (1, .ref x), (2, .ref o), (3, .int (nI i))]) (hi : i + 2 < L) (hL : L ≤ 1536) (hcc : 20 ≤ cc) (hc9 : cc + 4 ≤ 1000000) (hf : cells + 5 ≤ 600000) (hg : slots + 140 ≤ 7302250) (hI : LInv D cI cW cZ x xa xk xw o o1 o2 o3 o4 o5 o6 o7 o8 o9 o10 o11 o12 s (cc + 4) H locs)
    (kk : ∀ (H1 : Heap) (locs1 : List Loc), LInv D cI cW cZ x xa xk xw o o1 o2 o3 o4 o5 o6 o7 o8 o9 o10 o11 o12 s cc H1 locs1 → W p l e room_1 s m args below meth c H1 locs1 (cells + 5) (slots + 140) Q (F0 m 416 ls [])) : W p l e room_1 s m args below meth c H locs cells slots Q (F0 m 127 ls []) := by
  obtain ⟨n, cur, ad, f, ws, sk, sl, md, hsr, hfa, hP, hD, hS⟩ := hI
  have hx := hX.1
  have hb := hX.2.1
  refine lv_aload_n hx hb d_law_127 rfl (lv_at hl 1 rfl) ?_
  refine pseg (k := 1) (kI := 1) hX hsc hbl hS hl (by omega) hL (by decide) d_law_128 d_law_129 d_law_130 d_law_131 d_law_132 ?_
  refine x_enter hX hl.1 hsr hfa hP hD hS d_law_133 (by omega) (by omega) (fun cur' r H locs t1 t2 hP hD hS => ?_)
  refine lv_aload_n hx hb d_law_136 rfl (lv_at hl 2 rfl) ?_
  refine pseg (k := 1) (kI := 1) hX hsc hbl hS hl (by omega) hL (by decide) d_law_137 d_law_138 d_law_139 d_law_140 d_law_141 ?_
  refine m_call (av := [.int (xs (i + 1))]) (rest := [.int _]) hX hl.1 (c_M_enter l D cI cZ o o1 o2 o3 o4 o5 o6 o7 o8 o9 o10 o11 o12 (xs (i + 1)) md _ _ (pe2 _)) hP hD hS d_law_142 rfl kc_Model_enter kl_law_22 kn_Model_enter kx_Model_enter (na := 1) rfl (by decide +kernel) ⟨Nat.le_of_ble_eq_true rfl, Nat.le_of_ble_eq_true rfl⟩ ⟨rfl, rfl⟩ (Nat.le_of_ble_eq_true rfl) (rm_c (by omega) (by omega)) (fun H locs hP hD hS => ?_)
  refine lv_icmp_eq (tgt := 416) hx hb d_law_145 (by decide) (fun _ => ?_) (fun g => absurd t1 g)
  refine W.widen (k := cells + 5) (n := slots + 140) (by omega) (by omega) ?_
  exact kk _ _ ⟨n, cur', ad, f, ws, sk, sl, _, SR_mono t2 (by omega), hfa, hP, hD, hS⟩
set_option maxHeartbeats 4000000 in
set_option maxRecDepth 100000 in
theorem arm_asserting {x xa xk xw b L i cc : Nat} {o o1 o2 o3 o4 o5 o6 o7 o8 o9 o10 o11 o12 : Nat} {xs : Nat → Int32} (hX : LX p s m args c D cI cW cZ) (hsc : va_X b L xs s s.heap) (hbl : b < s.heap.size) (hl : lv_has ls 4 [(0, .ref b), (1, .ref x), (2, .ref o), (3, .int (nI i))]) (hi : i + 2 < L) (hL : L ≤ 1536) (hcc : 20 ≤ cc) (hc9 : cc + 4 ≤ 1000000) (hf : cells + 5 ≤ 600000) (hg : slots + 140 ≤ 7302250) (hI : LInv D cI cW cZ x xa xk xw o o1 o2 o3 o4 o5 o6 o7 o8 o9 o10 o11 o12 s (cc + 4) H locs)
    (kk : ∀ (H1 : Heap) (locs1 : List Loc), LInv D cI cW cZ x xa xk xw o o1 o2 o3 o4 o5 o6 o7 o8 o9 o10 o11 o12 s cc H1 locs1 → W p l e room_1 s m args below meth c H1 locs1 (cells + 5) (slots + 140) Q (F0 m 416 ls [])) : W p l e room_1 s m args below meth c H locs cells slots Q (F0 m 150 ls []) := by
  obtain ⟨n, cur, ad, f, ws, sk, sl, md, hsr, hfa, hP, hD, hS⟩ := hI
  have hx := hX.1
  have hb := hX.2.1
  refine lv_aload_n hx hb d_law_150 rfl (lv_at hl 1 rfl) ?_
  refine pseg (k := 1) (kI := 1) hX hsc hbl hS hl (by omega) hL (by decide) d_law_151 d_law_152 d_law_153 d_law_154 d_law_155 ?_
  refine bseg hX d_law_156 d_law_159 d_law_160 d_law_163 ?_
  refine x_call (M := M13 cI cZ o o1 o2 o3 o4 o5 o6 o7 o8 o9 o10 o11 o12 md) (av := [.int (bI (nz (xs (i + 1))))]) (rest := []) (g := fun w => (m_asserting_1 (nz (xs (i + 1))) w).1) (gr := fun w => (m_asserting_1 (nz (xs (i + 1))) w).2) (gk := fun _ => sk) (gl := fun _ => sl) hX hl.1 (fun _ => c_asserting_0 l D cI cW x xa xk xw (nI n) f sk sl (nz (xs (i + 1))) _ rfl) (fun j hj => c_asserting_1 l D cI cW (ad j).1 (ad j).2.1 (ad j).2.2.1 (ad j).2.2.2 x xa xk xw (nI n) f sk sl (nz (xs (i + 1))) (ws j) _ _ (pe2 _)) hsr.2.2.2.1 hP hD hS d_law_164 rfl kc_Suite_asserting kl_law_23 kn_Suite_asserting kx_Suite_asserting (na := 1) rfl (by decide +kernel) ⟨Nat.le_of_ble_eq_true rfl, Nat.le_of_ble_eq_true rfl⟩ ⟨Nat.le_of_ble_eq_true rfl, Nat.le_of_ble_eq_true rfl⟩ ⟨rfl, rfl⟩ ⟨rfl, rfl⟩ (Nat.le_of_ble_eq_true rfl) (rm_c (by omega) (by omega)) (fun H locs hP hD hS => ?_)
  rw [Xk_id, Xk_id] at hP hD
  refine lv_aload_n hx hb d_law_167 rfl (lv_at hl 2 rfl) ?_
  refine pseg (k := 1) (kI := 1) hX hsc hbl hS hl (by omega) hL (by decide) d_law_168 d_law_169 d_law_170 d_law_171 d_law_172 ?_
  refine bseg hX d_law_173 d_law_176 d_law_177 d_law_180 ?_
  refine m_call (av := [.int (bI (nz (xs (i + 1))))]) (rest := [.int _]) hX hl.1 (c_M_asserting l D cI cZ o o1 o2 o3 o4 o5 o6 o7 o8 o9 o10 o11 o12 (nz (xs (i + 1))) md (SR_okM hsr (by omega)) _ _ (pe2 _)) hP hD hS d_law_181 rfl kc_Model_asserting kl_law_26 kn_Model_asserting kx_Model_asserting (na := 1) rfl (by decide +kernel) ⟨Nat.le_of_ble_eq_true rfl, Nat.le_of_ble_eq_true rfl⟩ ⟨rfl, rfl⟩ (Nat.le_of_ble_eq_true rfl) (rm_c (by omega) (by omega)) (fun H locs hP hD hS => ?_)
  obtain ⟨t1, t2⟩ := TT_asserting (b := nz (xs (i + 1))) hsr
  refine lv_icmp_eq (tgt := 416) hx hb d_law_184 (by decide) (fun _ => ?_) (fun g => absurd t1 g)
  refine W.widen (k := cells + 5) (n := slots + 140) (by omega) (by omega) ?_
  exact kk _ _ ⟨n, cur, ad, f, _, sk, sl, _, t2, hfa, hP, hD, hS⟩
set_option maxHeartbeats 4000000 in
set_option maxRecDepth 100000 in
theorem arm_act {x xa xk xw b L i cc : Nat} {o o1 o2 o3 o4 o5 o6 o7 o8 o9 o10 o11 o12 : Nat} {xs : Nat → Int32} (hX : LX p s m args c D cI cW cZ) (hsc : va_X b L xs s s.heap) (hbl : b < s.heap.size) (hl : lv_has ls 4 [(0, .ref b), (1, .ref x), (2, .ref o), (3, .int (nI i))]) (hi : i + 2 < L) (hL : L ≤ 1536) (hcc : 20 ≤ cc) (hc9 : cc + 4 ≤ 1000000) (hf : cells + 5 ≤ 600000) (hg : slots + 140 ≤ 7302250) (hI : LInv D cI cW cZ x xa xk xw o o1 o2 o3 o4 o5 o6 o7 o8 o9 o10 o11 o12 s (cc + 4) H locs)
    (kk : ∀ (H1 : Heap) (locs1 : List Loc), LInv D cI cW cZ x xa xk xw o o1 o2 o3 o4 o5 o6 o7 o8 o9 o10 o11 o12 s cc H1 locs1 → W p l e room_1 s m args below meth c H1 locs1 (cells + 5) (slots + 140) Q (F0 m 416 ls [])) : W p l e room_1 s m args below meth c H locs cells slots Q (F0 m 189 ls []) := by
  obtain ⟨n, cur, ad, f, ws, sk, sl, md, hsr, hfa, hP, hD, hS⟩ := hI
  have hx := hX.1
  have hb := hX.2.1
  refine lv_aload_n hx hb d_law_189 rfl (lv_at hl 1 rfl) ?_
  refine pseg (k := 1) (kI := 1) hX hsc hbl hS hl (by omega) hL (by decide) d_law_190 d_law_191 d_law_192 d_law_193 d_law_194 ?_
  refine pseg (k := 2) (kI := 2) hX hsc hbl hS hl (by omega) hL (by decide) d_law_195 d_law_196 d_law_197 d_law_198 d_law_199 ?_
  refine x_call (M := M13 cI cZ o o1 o2 o3 o4 o5 o6 o7 o8 o9 o10 o11 o12 md) (av := [.int (xs (i + 1)), .int (xs (i + 2))]) (rest := []) (g := fun w => (m_act_1 (xs (i + 1)) (xs (i + 2)) w).1) (gr := fun w => (m_act_1 (xs (i + 1)) (xs (i + 2)) w).2) (gk := fun _ => sk) (gl := fun _ => sl) hX hl.1 (fun _ => c_act_0 l D cI cW x xa xk xw (nI n) f sk sl (xs (i + 1)) (xs (i + 2)) _ rfl) (fun j hj => c_act_1 l D cI cW (ad j).1 (ad j).2.1 (ad j).2.2.1 (ad j).2.2.2 x xa xk xw (nI n) f sk sl (xs (i + 1)) (xs (i + 2)) (ws j) (by subst hj; exact SR_ok4 hsr (by omega)) _ _ (pe2 _)) hsr.2.2.2.1 hP hD hS d_law_200 rfl kc_Suite_act kl_law_27 kn_Suite_act kx_Suite_act (na := 2) rfl (by decide +kernel) ⟨Nat.le_of_ble_eq_true rfl, Nat.le_of_ble_eq_true rfl⟩ ⟨Nat.le_of_ble_eq_true rfl, Nat.le_of_ble_eq_true rfl⟩ ⟨rfl, rfl⟩ ⟨rfl, rfl⟩ (Nat.le_of_ble_eq_true rfl) (rm_c (by omega) (by omega)) (fun H locs hP hD hS => ?_)
  rw [Xk_id, Xk_id] at hP hD
  refine lv_aload_n hx hb d_law_203 rfl (lv_at hl 2 rfl) ?_
  refine pseg (k := 1) (kI := 1) hX hsc hbl hS hl (by omega) hL (by decide) d_law_204 d_law_205 d_law_206 d_law_207 d_law_208 ?_
  refine pseg (k := 2) (kI := 2) hX hsc hbl hS hl (by omega) hL (by decide) d_law_209 d_law_210 d_law_211 d_law_212 d_law_213 ?_
  refine m_callA (av := [.int (xs (i + 1)), .int (xs (i + 2))]) (rest := [.int _]) hX hl.1 (c_M_act l D cI cZ o o1 o2 o3 o4 o5 o6 o7 o8 o9 o10 o11 o12 (xs (i + 1)) (xs (i + 2)) md (SR_okM hsr (by omega)) _ _ (pe2 _)) hP hD hS d_law_214 rfl kc_Model_act kl_law_31 kn_Model_act kx_Model_act (na := 2) rfl (by decide +kernel) ⟨Nat.le_of_ble_eq_true rfl, Nat.le_of_ble_eq_true rfl⟩ ⟨rfl, rfl⟩ (Nat.le_of_ble_eq_true rfl) (rm_c (by omega) (by omega)) (fun H locs hP hD hS => ?_)
  obtain ⟨t1, t2⟩ := TT_act (k := xs (i + 1)) (a := xs (i + 2)) hsr
  refine lv_icmp_eq (tgt := 416) hx hb d_law_217 (by decide) (fun _ => ?_) (fun g => absurd t1 g)
  refine W.widen (k := cells + 5) (n := slots + 140) (by omega) (by omega) ?_
  exact kk _ _ ⟨n, cur, ad, f, _, sk, sl, _, t2, hfa, hP, hD, hS⟩
set_option maxHeartbeats 4000000 in
set_option maxRecDepth 100000 in
theorem arm_find {x xa xk xw b L i cc : Nat} {o o1 o2 o3 o4 o5 o6 o7 o8 o9 o10 o11 o12 : Nat} {xs : Nat → Int32} (hX : LX p s m args c D cI cW cZ) (hsc : va_X b L xs s s.heap) (hbl : b < s.heap.size) (hl : lv_has ls 4 [(0, .ref b), (1, .ref x), (2, .ref o), (3, .int (nI i))]) (hi : i + 2 < L) (hL : L ≤ 1536) (hcc : 20 ≤ cc) (hc9 : cc + 4 ≤ 1000000) (hf : cells + 5 ≤ 600000) (hg : slots + 140 ≤ 7302250) (hI : LInv D cI cW cZ x xa xk xw o o1 o2 o3 o4 o5 o6 o7 o8 o9 o10 o11 o12 s (cc + 4) H locs)
    (kk : ∀ (H1 : Heap) (locs1 : List Loc), LInv D cI cW cZ x xa xk xw o o1 o2 o3 o4 o5 o6 o7 o8 o9 o10 o11 o12 s cc H1 locs1 → W p l e room_1 s m args below meth c H1 locs1 (cells + 5) (slots + 140) Q (F0 m 416 ls [])) : W p l e room_1 s m args below meth c H locs cells slots Q (F0 m 222 ls []) := by
  obtain ⟨n, cur, ad, f, ws, sk, sl, md, hsr, hfa, hP, hD, hS⟩ := hI
  have hx := hX.1
  have hb := hX.2.1
  refine lv_aload_n hx hb d_law_222 rfl (lv_at hl 1 rfl) ?_
  refine pseg (k := 1) (kI := 1) hX hsc hbl hS hl (by omega) hL (by decide) d_law_223 d_law_224 d_law_225 d_law_226 d_law_227 ?_
  refine pseg (k := 2) (kI := 2) hX hsc hbl hS hl (by omega) hL (by decide) d_law_228 d_law_229 d_law_230 d_law_231 d_law_232 ?_
  refine bseg hX d_law_233 d_law_236 d_law_237 d_law_240 ?_
  refine x_call (M := M13 cI cZ o o1 o2 o3 o4 o5 o6 o7 o8 o9 o10 o11 o12 md) (av := [.int (xs (i + 1)), .int (bI (nz (xs (i + 2))))]) (rest := []) (g := fun w => (m_find_1 (xs (i + 1)) (nz (xs (i + 2))) w).1) (gr := fun w => (m_find_1 (xs (i + 1)) (nz (xs (i + 2))) w).2) (gk := fun _ => sk) (gl := fun _ => sl) hX hl.1 (fun _ => c_find_0 l D cI cW x xa xk xw (nI n) f sk sl (xs (i + 1)) (nz (xs (i + 2))) _ rfl) (fun j hj => c_find_1 l D cI cW (ad j).1 (ad j).2.1 (ad j).2.2.1 (ad j).2.2.2 x xa xk xw (nI n) f sk sl (xs (i + 1)) (nz (xs (i + 2))) (ws j) (by subst hj; exact SR_ok4 hsr (by omega)) _ _ (pe2 _)) hsr.2.2.2.1 hP hD hS d_law_241 rfl kc_Suite_find kl_law_32 kn_Suite_find kx_Suite_find (na := 2) rfl (by decide +kernel) ⟨Nat.le_of_ble_eq_true rfl, Nat.le_of_ble_eq_true rfl⟩ ⟨Nat.le_of_ble_eq_true rfl, Nat.le_of_ble_eq_true rfl⟩ ⟨rfl, rfl⟩ ⟨rfl, rfl⟩ (Nat.le_of_ble_eq_true rfl) (rm_c (by omega) (by omega)) (fun H locs hP hD hS => ?_)
  rw [Xk_id, Xk_id] at hP hD
  refine lv_aload_n hx hb d_law_244 rfl (lv_at hl 2 rfl) ?_
  refine pseg (k := 1) (kI := 1) hX hsc hbl hS hl (by omega) hL (by decide) d_law_245 d_law_246 d_law_247 d_law_248 d_law_249 ?_
  refine pseg (k := 2) (kI := 2) hX hsc hbl hS hl (by omega) hL (by decide) d_law_250 d_law_251 d_law_252 d_law_253 d_law_254 ?_
  refine bseg hX d_law_255 d_law_258 d_law_259 d_law_262 ?_
  refine m_call (av := [.int (xs (i + 1)), .int (bI (nz (xs (i + 2))))]) (rest := [.int _]) hX hl.1 (c_M_find l D cI cZ o o1 o2 o3 o4 o5 o6 o7 o8 o9 o10 o11 o12 (xs (i + 1)) (nz (xs (i + 2))) md (SR_okM hsr (by omega)) _ _ (pe2 _)) hP hD hS d_law_263 rfl kc_Model_find kl_law_36 kn_Model_find kx_Model_find (na := 2) rfl (by decide +kernel) ⟨Nat.le_of_ble_eq_true rfl, Nat.le_of_ble_eq_true rfl⟩ ⟨rfl, rfl⟩ (Nat.le_of_ble_eq_true rfl) (rm_c (by omega) (by omega)) (fun H locs hP hD hS => ?_)
  obtain ⟨t1, t2⟩ := TT_find (k := xs (i + 1)) (b := nz (xs (i + 2))) hsr
  refine lv_icmp_eq (tgt := 416) hx hb d_law_266 (by decide) (fun _ => ?_) (fun g => absurd t1 g)
  refine W.widen (k := cells + 5) (n := slots + 140) (by omega) (by omega) ?_
  exact kk _ _ ⟨n, cur, ad, f, _, sk, sl, _, t2, hfa, hP, hD, hS⟩
set_option maxHeartbeats 4000000 in
set_option maxRecDepth 100000 in
theorem arm_keep {x xa xk xw b L i cc : Nat} {o o1 o2 o3 o4 o5 o6 o7 o8 o9 o10 o11 o12 : Nat} {xs : Nat → Int32} (hX : LX p s m args c D cI cW cZ) (hsc : va_X b L xs s s.heap) (hbl : b < s.heap.size) (hl : lv_has ls 4 [(0, .ref b), (1, .ref x), (2, .ref o), (3, .int (nI i))]) (hi : i + 2 < L) (hL : L ≤ 1536) (hcc : 20 ≤ cc) (hc9 : cc + 4 ≤ 1000000) (hf : cells + 5 ≤ 600000) (hg : slots + 140 ≤ 7302250) (hI : LInv D cI cW cZ x xa xk xw o o1 o2 o3 o4 o5 o6 o7 o8 o9 o10 o11 o12 s (cc + 4) H locs)
    (kk : ∀ (H1 : Heap) (locs1 : List Loc), LInv D cI cW cZ x xa xk xw o o1 o2 o3 o4 o5 o6 o7 o8 o9 o10 o11 o12 s cc H1 locs1 → W p l e room_1 s m args below meth c H1 locs1 (cells + 5) (slots + 140) Q (F0 m 416 ls [])) : W p l e room_1 s m args below meth c H locs cells slots Q (F0 m 271 ls []) := by
  obtain ⟨n, cur, ad, f, ws, sk, sl, md, hsr, hfa, hP, hD, hS⟩ := hI
  have hx := hX.1
  have hb := hX.2.1
  refine lv_aload_n hx hb d_law_271 rfl (lv_at hl 1 rfl) ?_
  refine pseg (k := 1) (kI := 1) hX hsc hbl hS hl (by omega) hL (by decide) d_law_272 d_law_273 d_law_274 d_law_275 d_law_276 ?_
  refine pseg (k := 2) (kI := 2) hX hsc hbl hS hl (by omega) hL (by decide) d_law_277 d_law_278 d_law_279 d_law_280 d_law_281 ?_
  refine x_call (M := M13 cI cZ o o1 o2 o3 o4 o5 o6 o7 o8 o9 o10 o11 o12 md) (av := [.int (xs (i + 1)), .int (xs (i + 2))]) (rest := []) (g := fun w => (m_keep_1 (xs (i + 1)) (xs (i + 2)) w sk sl).1) (gr := fun w => (m_keep_1 (xs (i + 1)) (xs (i + 2)) w sk sl).2.2.2) (gk := fun w => (m_keep_1 (xs (i + 1)) (xs (i + 2)) w sk sl).2.1) (gl := fun w => (m_keep_1 (xs (i + 1)) (xs (i + 2)) w sk sl).2.2.1) hX hl.1 (fun _ => c_keep_0 l D cI cW x xa xk xw (nI n) f sk sl (xs (i + 1)) (xs (i + 2)) _ rfl) (fun j hj => c_keep_1 l D cI cW (ad j).1 (ad j).2.1 (ad j).2.2.1 (ad j).2.2.2 x xa xk xw (nI n) f (xs (i + 1)) (xs (i + 2)) (ws j) sk sl (by subst hj; exact SR_ok4 hsr (by omega)) _ _ _ _ (pe4 _)) hsr.2.2.2.1 hP hD hS d_law_282 rfl kc_Suite_keep kl_law_37 kn_Suite_keep kx_Suite_keep (na := 2) rfl (by decide +kernel) ⟨Nat.le_of_ble_eq_true rfl, Nat.le_of_ble_eq_true rfl⟩ ⟨Nat.le_of_ble_eq_true rfl, Nat.le_of_ble_eq_true rfl⟩ ⟨rfl, rfl⟩ ⟨rfl, rfl⟩ (Nat.le_of_ble_eq_true rfl) (rm_c (by omega) (by omega)) (fun H locs hP hD hS => ?_)
  refine lv_aload_n hx hb d_law_285 rfl (lv_at hl 2 rfl) ?_
  refine pseg (k := 1) (kI := 1) hX hsc hbl hS hl (by omega) hL (by decide) d_law_286 d_law_287 d_law_288 d_law_289 d_law_290 ?_
  refine pseg (k := 2) (kI := 2) hX hsc hbl hS hl (by omega) hL (by decide) d_law_291 d_law_292 d_law_293 d_law_294 d_law_295 ?_
  refine m_call (av := [.int (xs (i + 1)), .int (xs (i + 2))]) (rest := [.int _]) hX hl.1 (c_M_keep l D cI cZ o o1 o2 o3 o4 o5 o6 o7 o8 o9 o10 o11 o12 (xs (i + 1)) (xs (i + 2)) md (SR_okM hsr (by omega)) _ _ (pe2 _)) hP hD hS d_law_296 rfl kc_Model_keep kl_law_40 kn_Model_keep kx_Model_keep (na := 2) rfl (by decide +kernel) ⟨Nat.le_of_ble_eq_true rfl, Nat.le_of_ble_eq_true rfl⟩ ⟨rfl, rfl⟩ (Nat.le_of_ble_eq_true rfl) (rm_c (by omega) (by omega)) (fun H locs hP hD hS => ?_)
  obtain ⟨t1, t2⟩ := TT_keep (i := xs (i + 1)) (k := xs (i + 2)) hsr
  refine lv_icmp_eq (tgt := 416) hx hb d_law_299 (by decide) (fun _ => ?_) (fun g => absurd t1 g)
  refine W.widen (k := cells + 5) (n := slots + 140) (by omega) (by omega) ?_
  exact kk _ _ ⟨n, cur, ad, f, _, _, _, _, t2, hfa, hP, hD, hS⟩
set_option maxHeartbeats 4000000 in
set_option maxRecDepth 100000 in
theorem arm_isOf {x xa xk xw b L i cc : Nat} {o o1 o2 o3 o4 o5 o6 o7 o8 o9 o10 o11 o12 : Nat} {xs : Nat → Int32} (hX : LX p s m args c D cI cW cZ) (hsc : va_X b L xs s s.heap) (hbl : b < s.heap.size) (hl : lv_has ls 4 [(0, .ref b), (1, .ref x), (2, .ref o), (3, .int (nI i))]) (hi : i + 2 < L) (hL : L ≤ 1536) (hcc : 20 ≤ cc) (hc9 : cc + 4 ≤ 1000000) (hf : cells + 5 ≤ 600000) (hg : slots + 140 ≤ 7302250) (hI : LInv D cI cW cZ x xa xk xw o o1 o2 o3 o4 o5 o6 o7 o8 o9 o10 o11 o12 s (cc + 4) H locs)
    (kk : ∀ (H1 : Heap) (locs1 : List Loc), LInv D cI cW cZ x xa xk xw o o1 o2 o3 o4 o5 o6 o7 o8 o9 o10 o11 o12 s cc H1 locs1 → W p l e room_1 s m args below meth c H1 locs1 (cells + 5) (slots + 140) Q (F0 m 416 ls [])) : W p l e room_1 s m args below meth c H locs cells slots Q (F0 m 304 ls []) := by
  obtain ⟨n, cur, ad, f, ws, sk, sl, md, hsr, hfa, hP, hD, hS⟩ := hI
  have hx := hX.1
  have hb := hX.2.1
  refine lv_aload_n hx hb d_law_304 rfl (lv_at hl 1 rfl) ?_
  refine pseg (k := 1) (kI := 1) hX hsc hbl hS hl (by omega) hL (by decide) d_law_305 d_law_306 d_law_307 d_law_308 d_law_309 ?_
  refine pseg (k := 2) (kI := 2) hX hsc hbl hS hl (by omega) hL (by decide) d_law_310 d_law_311 d_law_312 d_law_313 d_law_314 ?_
  refine x_isOf hX hl.1 hsr.2.2.2.1 hP hD hS d_law_315 (by omega) (by omega) (fun H locs hP hD hS => ?_)
  refine lv_aload_n hx hb d_law_318 rfl (lv_at hl 2 rfl) ?_
  refine pseg (k := 1) (kI := 1) hX hsc hbl hS hl (by omega) hL (by decide) d_law_319 d_law_320 d_law_321 d_law_322 d_law_323 ?_
  refine pseg (k := 2) (kI := 2) hX hsc hbl hS hl (by omega) hL (by decide) d_law_324 d_law_325 d_law_326 d_law_327 d_law_328 ?_
  refine m_call (av := [.int (xs (i + 1)), .int (xs (i + 2))]) (rest := [.int _]) hX hl.1 (c_M_isOf l D cI cZ o o1 o2 o3 o4 o5 o6 o7 o8 o9 o10 o11 o12 (xs (i + 1)) (xs (i + 2)) md _ rfl) hP hD hS d_law_329 rfl kc_Model_isOf kl_law_45 kn_Model_isOf kx_Model_isOf (na := 2) rfl (by decide +kernel) ⟨Nat.le_of_ble_eq_true rfl, Nat.le_of_ble_eq_true rfl⟩ ⟨rfl, rfl⟩ (Nat.le_of_ble_eq_true rfl) (rm_c (by omega) (by omega)) (fun H locs hP hD hS => ?_)
  refine lv_icmp_eq (tgt := 416) hx hb d_law_332 (by decide) (fun _ => ?_) (fun g => absurd (TT_isOf hsr) g)
  refine W.widen (k := cells + 5) (n := slots + 140) (by omega) (by omega) ?_
  exact kk _ _ ⟨n, cur, ad, f, ws, sk, sl, md, SR_mono hsr (by omega), hfa, hP, hD, hS⟩
set_option maxHeartbeats 4000000 in
set_option maxRecDepth 100000 in
theorem arm_alike {x xa xk xw b L i cc : Nat} {o o1 o2 o3 o4 o5 o6 o7 o8 o9 o10 o11 o12 : Nat} {xs : Nat → Int32} (hX : LX p s m args c D cI cW cZ) (hsc : va_X b L xs s s.heap) (hbl : b < s.heap.size) (hl : lv_has ls 4 [(0, .ref b), (1, .ref x), (2, .ref o), (3, .int (nI i))]) (hi : i + 2 < L) (hL : L ≤ 1536) (hcc : 20 ≤ cc) (hc9 : cc + 4 ≤ 1000000) (hf : cells + 5 ≤ 600000) (hg : slots + 140 ≤ 7302250) (hI : LInv D cI cW cZ x xa xk xw o o1 o2 o3 o4 o5 o6 o7 o8 o9 o10 o11 o12 s (cc + 4) H locs)
    (kk : ∀ (H1 : Heap) (locs1 : List Loc), LInv D cI cW cZ x xa xk xw o o1 o2 o3 o4 o5 o6 o7 o8 o9 o10 o11 o12 s cc H1 locs1 → W p l e room_1 s m args below meth c H1 locs1 (cells + 5) (slots + 140) Q (F0 m 416 ls [])) : W p l e room_1 s m args below meth c H locs cells slots Q (F0 m 337 ls []) := by
  obtain ⟨n, cur, ad, f, ws, sk, sl, md, hsr, hfa, hP, hD, hS⟩ := hI
  have hx := hX.1
  have hb := hX.2.1
  refine lv_aload_n hx hb d_law_337 rfl (lv_at hl 1 rfl) ?_
  refine pseg (k := 1) (kI := 1) hX hsc hbl hS hl (by omega) hL (by decide) d_law_338 d_law_339 d_law_340 d_law_341 d_law_342 ?_
  refine pseg (k := 2) (kI := 2) hX hsc hbl hS hl (by omega) hL (by decide) d_law_343 d_law_344 d_law_345 d_law_346 d_law_347 ?_
  refine x_alike hX hl.1 hP hD hS d_law_348 (by omega) (by omega) (fun H locs hP hD hS => ?_)
  refine lv_aload_n hx hb d_law_351 rfl (lv_at hl 2 rfl) ?_
  refine pseg (k := 1) (kI := 1) hX hsc hbl hS hl (by omega) hL (by decide) d_law_352 d_law_353 d_law_354 d_law_355 d_law_356 ?_
  refine pseg (k := 2) (kI := 2) hX hsc hbl hS hl (by omega) hL (by decide) d_law_357 d_law_358 d_law_359 d_law_360 d_law_361 ?_
  refine m_call (av := [.int (xs (i + 1)), .int (xs (i + 2))]) (rest := [.int _]) hX hl.1 (c_M_alike l D cI cZ o o1 o2 o3 o4 o5 o6 o7 o8 o9 o10 o11 o12 (xs (i + 1)) (xs (i + 2)) md _ rfl) hP hD hS d_law_362 rfl kc_Model_alike kl_law_49 kn_Model_alike kx_Model_alike (na := 2) rfl (by decide +kernel) ⟨Nat.le_of_ble_eq_true rfl, Nat.le_of_ble_eq_true rfl⟩ ⟨rfl, rfl⟩ (Nat.le_of_ble_eq_true rfl) (rm_c (by omega) (by omega)) (fun H locs hP hD hS => ?_)
  refine lv_icmp_eq (tgt := 416) hx hb d_law_365 (by decide) (fun _ => ?_) (fun g => absurd (T_alike hsr) g)
  refine W.widen (k := cells + 5) (n := slots + 140) (by omega) (by omega) ?_
  exact kk _ _ ⟨n, cur, ad, f, ws, sk, sl, md, SR_mono hsr (by omega), hfa, hP, hD, hS⟩
set_option maxHeartbeats 4000000 in
set_option maxRecDepth 100000 in
theorem arm_note {x xa xk xw b L i cc : Nat} {o o1 o2 o3 o4 o5 o6 o7 o8 o9 o10 o11 o12 : Nat} {xs : Nat → Int32} (hX : LX p s m args c D cI cW cZ) (hsc : va_X b L xs s s.heap) (hbl : b < s.heap.size) (hl : lv_has ls 4 [(0, .ref b), (1, .ref x), (2, .ref o), (3, .int (nI i))]) (hi : i + 2 < L) (hL : L ≤ 1536) (hcc : 20 ≤ cc) (hc9 : cc + 4 ≤ 1000000) (hf : cells + 5 ≤ 600000) (hg : slots + 140 ≤ 7302250) (hI : LInv D cI cW cZ x xa xk xw o o1 o2 o3 o4 o5 o6 o7 o8 o9 o10 o11 o12 s (cc + 4) H locs)
    (kk : ∀ (H1 : Heap) (locs1 : List Loc), LInv D cI cW cZ x xa xk xw o o1 o2 o3 o4 o5 o6 o7 o8 o9 o10 o11 o12 s cc H1 locs1 → W p l e room_1 s m args below meth c H1 locs1 (cells + 5) (slots + 140) Q (F0 m 416 ls [])) : W p l e room_1 s m args below meth c H locs cells slots Q (F0 m 370 ls []) := by
  obtain ⟨n, cur, ad, f, ws, sk, sl, md, hsr, hfa, hP, hD, hS⟩ := hI
  have hx := hX.1
  have hb := hX.2.1
  refine lv_aload_n hx hb d_law_370 rfl (lv_at hl 1 rfl) ?_
  refine pseg (k := 1) (kI := 1) hX hsc hbl hS hl (by omega) hL (by decide) d_law_371 d_law_372 d_law_373 d_law_374 d_law_375 ?_
  refine x_call (M := M13 cI cZ o o1 o2 o3 o4 o5 o6 o7 o8 o9 o10 o11 o12 md) (av := [.int (xs (i + 1))]) (rest := []) (g := fun w => w) (gr := fun w => m_note_1 (xs (i + 1)) w) (gk := fun _ => sk) (gl := fun _ => sl) hX hl.1 (fun _ => c_note_0 l D cI cW x xa xk xw (nI n) f sk sl (xs (i + 1)) _ rfl) (fun j hj => c_note_1 l D cI cW (ad j).1 (ad j).2.1 (ad j).2.2.1 (ad j).2.2.2 x xa xk xw (nI n) f sk sl (xs (i + 1)) (ws j) _ rfl) hsr.2.2.2.1 hP hD hS d_law_376 rfl kc_Suite_note kl_law_50 kn_Suite_note kx_Suite_note (na := 1) rfl (by decide +kernel) ⟨Nat.le_of_ble_eq_true rfl, Nat.le_of_ble_eq_true rfl⟩ ⟨Nat.le_of_ble_eq_true rfl, Nat.le_of_ble_eq_true rfl⟩ ⟨rfl, rfl⟩ ⟨rfl, rfl⟩ (Nat.le_of_ble_eq_true rfl) (rm_c (by omega) (by omega)) (fun H locs hP hD hS => ?_)
  rw [Xw_id, Xk_id, Xk_id] at hP hD
  refine lv_aload_n hx hb d_law_379 rfl (lv_at hl 2 rfl) ?_
  refine pseg (k := 1) (kI := 1) hX hsc hbl hS hl (by omega) hL (by decide) d_law_380 d_law_381 d_law_382 d_law_383 d_law_384 ?_
  refine m_call (av := [.int (xs (i + 1))]) (rest := [.int _]) hX hl.1 (c_M_note l D cI cZ o o1 o2 o3 o4 o5 o6 o7 o8 o9 o10 o11 o12 (xs (i + 1)) md (SR_okM hsr (by omega)) _ rfl) hP hD hS d_law_385 rfl kc_Model_note kl_law_53 kn_Model_note kx_Model_note (na := 1) rfl (by decide +kernel) ⟨Nat.le_of_ble_eq_true rfl, Nat.le_of_ble_eq_true rfl⟩ ⟨rfl, rfl⟩ (Nat.le_of_ble_eq_true rfl) (rm_c (by omega) (by omega)) (fun H locs hP hD hS => ?_)
  refine lv_icmp_eq (tgt := 416) hx hb d_law_388 (by decide) (fun _ => ?_) (fun g => absurd (TT_note hsr) g)
  refine W.widen (k := cells + 5) (n := slots + 140) (by omega) (by omega) ?_
  exact kk _ _ ⟨n, cur, ad, f, ws, sk, sl, md, SR_mono hsr (by omega), hfa, hP, hD, hS⟩
set_option maxHeartbeats 4000000 in
set_option maxRecDepth 100000 in
theorem arm_count {x xa xk xw b L i cc : Nat} {o o1 o2 o3 o4 o5 o6 o7 o8 o9 o10 o11 o12 : Nat} {xs : Nat → Int32} (hX : LX p s m args c D cI cW cZ) (hsc : va_X b L xs s s.heap) (hbl : b < s.heap.size) (hl : lv_has ls 4 [(0, .ref b), (1, .ref x), (2, .ref o), (3, .int (nI i))]) (hi : i + 2 < L) (hL : L ≤ 1536) (hcc : 20 ≤ cc) (hc9 : cc + 4 ≤ 1000000) (hf : cells + 5 ≤ 600000) (hg : slots + 140 ≤ 7302250) (hI : LInv D cI cW cZ x xa xk xw o o1 o2 o3 o4 o5 o6 o7 o8 o9 o10 o11 o12 s (cc + 4) H locs)
    (kk : ∀ (H1 : Heap) (locs1 : List Loc), LInv D cI cW cZ x xa xk xw o o1 o2 o3 o4 o5 o6 o7 o8 o9 o10 o11 o12 s cc H1 locs1 → W p l e room_1 s m args below meth c H1 locs1 (cells + 5) (slots + 140) Q (F0 m 416 ls [])) : W p l e room_1 s m args below meth c H locs cells slots Q (F0 m 393 ls []) := by
  obtain ⟨n, cur, ad, f, ws, sk, sl, md, hsr, hfa, hP, hD, hS⟩ := hI
  have hx := hX.1
  have hb := hX.2.1
  refine lv_aload_n hx hb d_law_393 rfl (lv_at hl 1 rfl) ?_
  refine pseg (k := 1) (kI := 1) hX hsc hbl hS hl (by omega) hL (by decide) d_law_394 d_law_395 d_law_396 d_law_397 d_law_398 ?_
  refine x_call (M := M13 cI cZ o o1 o2 o3 o4 o5 o6 o7 o8 o9 o10 o11 o12 md) (av := [.int (xs (i + 1))]) (rest := []) (g := fun w => w) (gr := fun w => m_count_1 (xs (i + 1)) (nI n) w) (gk := fun _ => sk) (gl := fun _ => sl) hX hl.1 (fun _ => c_count_0 l D cI cW x xa xk xw f sk sl (xs (i + 1)) (nI n) _ rfl) (fun j hj => c_count_1 l D cI cW (ad j).1 (ad j).2.1 (ad j).2.2.1 (ad j).2.2.2 x xa xk xw f sk sl (xs (i + 1)) (nI n) (ws j) _ rfl) hsr.2.2.2.1 hP hD hS d_law_399 rfl kc_Suite_count kl_law_54 kn_Suite_count kx_Suite_count (na := 1) rfl (by decide +kernel) ⟨Nat.le_of_ble_eq_true rfl, Nat.le_of_ble_eq_true rfl⟩ ⟨Nat.le_of_ble_eq_true rfl, Nat.le_of_ble_eq_true rfl⟩ ⟨rfl, rfl⟩ ⟨rfl, rfl⟩ (Nat.le_of_ble_eq_true rfl) (rm_c (by omega) (by omega)) (fun H locs hP hD hS => ?_)
  rw [Xw_id, Xk_id, Xk_id] at hP hD
  refine lv_aload_n hx hb d_law_402 rfl (lv_at hl 2 rfl) ?_
  refine pseg (k := 1) (kI := 1) hX hsc hbl hS hl (by omega) hL (by decide) d_law_403 d_law_404 d_law_405 d_law_406 d_law_407 ?_
  refine m_call (av := [.int (xs (i + 1))]) (rest := [.int _]) hX hl.1 (c_M_count l D cI cZ o o1 o2 o3 o4 o5 o6 o7 o8 o9 o10 o11 o12 (xs (i + 1)) md (SR_okM hsr (by omega)) _ rfl) hP hD hS d_law_408 rfl kc_Model_count kl_law_57 kn_Model_count kx_Model_count (na := 1) rfl (by decide +kernel) ⟨Nat.le_of_ble_eq_true rfl, Nat.le_of_ble_eq_true rfl⟩ ⟨rfl, rfl⟩ (Nat.le_of_ble_eq_true rfl) (rm_c (by omega) (by omega)) (fun H locs hP hD hS => ?_)
  refine lv_icmp_eq (tgt := 416) hx hb d_law_411 (by decide) (fun _ => ?_) (fun g => absurd (TT_count hsr) g)
  refine W.widen (k := cells + 5) (n := slots + 140) (by omega) (by omega) ?_
  exact kk _ _ ⟨n, cur, ad, f, ws, sk, sl, md, SR_mono hsr (by omega), hfa, hP, hD, hS⟩
end LawArms
