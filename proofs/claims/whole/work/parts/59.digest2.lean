/-! THE MODEL: digest -/
theorem RDp.of {r : RS} {μ m m' : gm_M} (h : FX lQ fQ μ m) (h' : RDp r m m') : RDp r μ m' := ⟨h'.1, h'.2.1, h.tr h'.2.2⟩
set_option maxRecDepth 100000 in
set_option maxHeartbeats 400000 in
theorem mNightD {r : RS} {μ : gm_M} (hA : MA r μ) {n k : Nat} (hn : n < 30) (hk : k < qnum (qof r)) (h0 : Int64) : Sat yX12_nightDigest cX12_nightDigest 8 (some .long) 9 [(.ref 52), (.long h0), (.int (nI n)), (.int (nI k))] μ (fun r' μ' => r' = some (.long (dNi (qof r) k n h0)) ∧ RDp r μ μ') := by
  refine Sat.of (L := [some (.ref 52), some (.long h0), none, some (.int (nI n)), some (.int (nI k)), none, none, none]) (by decide) (fun _ => rfl) (fun _ => rfl) ?_
  refine go_ll1 dX12_nightDigest_0 (go_ls5 dX12_nightDigest_1 rfl rfl (go_ic0 dX12_nightDigest_3 (go_is7 dX12_nightDigest_4 rfl rfl ?_)))
  refine go_il7 dX12_nightDigest_6 (go_ic3 dX12_nightDigest_8 ?_)
  refine go_cge 37 dX12_nightDigest_9 (by decide) (fun h9 => absurd h9 (by decide)) (fun _ => ?_)
  refine go_ldc2 dX12_nightDigest_12 nX12_288 (go_ll5 dX12_nightDigest_15 (go_lmul dX12_nightDigest_17 (go_al0 dX12_nightDigest_18 (go_il3 dX12_nightDigest_19 (go_il4 dX12_nightDigest_20 (go_il7 dX12_nightDigest_22 ?_))))))
  refine go_V3 mcX12_atOf mvX12_atOf kX12_199 rfl dX12_nightDigest_24 rfl rfl (mAtOf hA hn hk _) ?_
  rintro _ m24 ⟨rfl, hR⟩
  refine go_i2l dX12_nightDigest_27 (go_ladd dX12_nightDigest_28 (go_ls5 dX12_nightDigest_29 rfl rfl (go_inc7 (k := 1) dX12_nightDigest_31 (by decide) rfl rfl (go_goto 6 dX12_nightDigest_34 (by decide) ?_))))
  rw [show (0 : Int32) + 1 = 1 from by decide]
  refine go_il7 dX12_nightDigest_6 (go_ic3 dX12_nightDigest_8 ?_)
  refine go_cge 37 dX12_nightDigest_9 (by decide) (fun h9 => absurd h9 (by decide)) (fun _ => ?_)
  refine go_ldc2 dX12_nightDigest_12 nX12_288 (go_ll5 dX12_nightDigest_15 (go_lmul dX12_nightDigest_17 (go_al0 dX12_nightDigest_18 (go_il3 dX12_nightDigest_19 (go_il4 dX12_nightDigest_20 (go_il7 dX12_nightDigest_22 ?_))))))
  refine go_V3 mcX12_atOf mvX12_atOf kX12_199 rfl dX12_nightDigest_24 rfl rfl (mAtOf (hR.ma hA) hn hk _) ?_
  rintro _ m24 ⟨rfl, hN⟩
  have hR := hR.tr hN
  refine go_i2l dX12_nightDigest_27 (go_ladd dX12_nightDigest_28 (go_ls5 dX12_nightDigest_29 rfl rfl (go_inc7 (k := 1) dX12_nightDigest_31 (by decide) rfl rfl (go_goto 6 dX12_nightDigest_34 (by decide) ?_))))
  rw [show (1 : Int32) + 1 = 2 from by decide]
  refine go_il7 dX12_nightDigest_6 (go_ic3 dX12_nightDigest_8 ?_)
  refine go_cge 37 dX12_nightDigest_9 (by decide) (fun h9 => absurd h9 (by decide)) (fun _ => ?_)
  refine go_ldc2 dX12_nightDigest_12 nX12_288 (go_ll5 dX12_nightDigest_15 (go_lmul dX12_nightDigest_17 (go_al0 dX12_nightDigest_18 (go_il3 dX12_nightDigest_19 (go_il4 dX12_nightDigest_20 (go_il7 dX12_nightDigest_22 ?_))))))
  refine go_V3 mcX12_atOf mvX12_atOf kX12_199 rfl dX12_nightDigest_24 rfl rfl (mAtOf (hR.ma hA) hn hk _) ?_
  rintro _ m24 ⟨rfl, hN⟩
  have hR := hR.tr hN
  refine go_i2l dX12_nightDigest_27 (go_ladd dX12_nightDigest_28 (go_ls5 dX12_nightDigest_29 rfl rfl (go_inc7 (k := 1) dX12_nightDigest_31 (by decide) rfl rfl (go_goto 6 dX12_nightDigest_34 (by decide) ?_))))
  rw [show (2 : Int32) + 1 = 3 from by decide]
  refine go_il7 dX12_nightDigest_6 (go_ic3 dX12_nightDigest_8 ?_)
  refine go_cge 37 dX12_nightDigest_9 (by decide) (fun _ => ?_) (fun h9 => absurd h9 (by decide))
  refine go_ll5 dX12_nightDigest_37 ?_
  refine go_lret dX12_nightDigest_39 ?_
  exact ⟨rfl, hR⟩

theorem mNightD_0 {r : RS} {μ : gm_M} (hA : MA r μ) {k : Nat} (hk : k < qnum (qof r)) (h0 : Int64) : Sat yX12_nightDigest cX12_nightDigest 8 (some .long) 9 [.ref 52, .long h0, .int 0, .int (nI k)] μ (fun r' μ' => r' = some (.long (dNi (qof r) k 0 h0)) ∧ RDp r μ μ') := mNightD hA (n := 0) (by decide) hk h0
theorem mNightD_5 {r : RS} {μ : gm_M} (hA : MA r μ) {k : Nat} (hk : k < qnum (qof r)) (h0 : Int64) : Sat yX12_nightDigest cX12_nightDigest 8 (some .long) 9 [.ref 52, .long h0, .int 5, .int (nI k)] μ (fun r' μ' => r' = some (.long (dNi (qof r) k 5 h0)) ∧ RDp r μ μ') := mNightD hA (n := 5) (by decide) hk h0
theorem mNightD_12 {r : RS} {μ : gm_M} (hA : MA r μ) {k : Nat} (hk : k < qnum (qof r)) (h0 : Int64) : Sat yX12_nightDigest cX12_nightDigest 8 (some .long) 9 [.ref 52, .long h0, .int 12, .int (nI k)] μ (fun r' μ' => r' = some (.long (dNi (qof r) k 12 h0)) ∧ RDp r μ μ') := mNightD hA (n := 12) (by decide) hk h0
theorem mNightD_29 {r : RS} {μ : gm_M} (hA : MA r μ) {k : Nat} (hk : k < qnum (qof r)) (h0 : Int64) : Sat yX12_nightDigest cX12_nightDigest 8 (some .long) 9 [.ref 52, .long h0, .int 29, .int (nI k)] μ (fun r' μ' => r' = some (.long (dNi (qof r) k 29 h0)) ∧ RDp r μ μ') := mNightD hA (n := 29) (by decide) hk h0
theorem mRipe12 {r : RS} {μ : gm_M} (hA : MA r μ) {k : Nat} (hk : k < qnum (qof r)) : Sat yX12_ripeBy cX12_ripeBy 5 (some .int) 7 [.ref 52, .int (nI k), .int 12] μ (fun r' μ' => r' = some (.int (ripA (trof (qof r) 9 k) 12).1) ∧ RDp r μ μ' ∧ okRow (ripA (trof (qof r) 9 k) 12) μ') := mRipeBy hA hk (x := 12) (by decide)
theorem mFrost5 {r : RS} {μ : gm_M} (hA : MA r μ) {k : Nat} (hk : k < qnum (qof r)) (w : Int32) : Sat yX12_frostOf cX12_frostOf 12 (some .long) 7 [.ref 52, .int 5, .int 5, .int (nI k), .int 12, .int w] μ (fun r' μ' => r' = some (.long (frA (trof (qof r) 9 k) 5 5 12 w)) ∧ RDp r μ μ') := mFrostOf hA hk (c := 5) (last := 5) (x := 12) (by decide) (by decide) (by decide) w
theorem mWarm_0 {r : RS} {μ : gm_M} (hA : MA r μ) : Sat yX12_warmOf cX12_warmOf 2 (some .int) 6 [.ref 52, .int 0] μ (fun r' μ' => r' = some (.int (nI (qwa (qof r) 0))) ∧ RDp r μ μ') := mWarmOf hA (n := 0) (by decide)
theorem mWarm_9 {r : RS} {μ : gm_M} (hA : MA r μ) : Sat yX12_warmOf cX12_warmOf 2 (some .int) 6 [.ref 52, .int 9] μ (fun r' μ' => r' = some (.int (nI (qwa (qof r) 9))) ∧ RDp r μ μ') := mWarmOf hA (n := 9) (by decide)
theorem mWarm_19 {r : RS} {μ : gm_M} (hA : MA r μ) : Sat yX12_warmOf cX12_warmOf 2 (some .int) 6 [.ref 52, .int 19] μ (fun r' μ' => r' = some (.int (nI (qwa (qof r) 19))) ∧ RDp r μ μ') := mWarmOf hA (n := 19) (by decide)
theorem mWarm_29 {r : RS} {μ : gm_M} (hA : MA r μ) : Sat yX12_warmOf cX12_warmOf 2 (some .int) 6 [.ref 52, .int 29] μ (fun r' μ' => r' = some (.int (nI (qwa (qof r) 29))) ∧ RDp r μ μ') := mWarmOf hA (n := 29) (by decide)
theorem mSum7 {r : RS} {μ : gm_M} (hA : MA r μ) (x : Int32) : Sat yX12_summerOf cX12_summerOf 9 (some .int) 7 [.ref 52, .int 7, .int 20, .int x] μ (fun r' μ' => r' = some (.int (sumA (qof r) 7 20 x)) ∧ RDp r μ μ') := mSummerOf hA (n := 20) (by decide) 7 x
set_option maxRecDepth 100000 in
set_option maxHeartbeats 400000 in
theorem mWD_tail {r : RS} {μ m : gm_M} (hA : MA r μ) (hR : RDp r μ m) {k : Nat} (hk : k < qnum (qof r)) (h0 h1 : Int64) (d6 : Option Value) : Go yX12_wheelDigest cX12_wheelDigest 7 (some .long) 10 36 [some (.ref 52), some (.long h0), none, some (.int (nI k)), some (.long h1), none, d6] [] m (fun r' μ' => r' = some (.long (dC (qof r) k (dP (qof r) k (mx (whl (fun j => dNi (qof r) k (dAn j)) 4 h1) (nI (tct (trof (qof r) 9 k) 30)).toInt64)))) ∧ RDp r μ μ') := by
  refine go_al0 dX12_wheelDigest_36 (go_ll4 dX12_wheelDigest_37 (go_ic0 dX12_wheelDigest_39 (go_il3 dX12_wheelDigest_40 ?_)))
  refine go_V3 mcX12_nightDigest mvX12_nightDigest kX12_290 rfl dX12_wheelDigest_41 rfl rfl (mNightD_0 (hR.ma hA) hk _) ?_
  rintro _ m41 ⟨rfl, hN⟩
  have hR := hR.tr hN
  refine go_ls4 dX12_wheelDigest_44 rfl rfl (go_al0 dX12_wheelDigest_46 (go_ll4 dX12_wheelDigest_47 (go_ic5 dX12_wheelDigest_49 (go_il3 dX12_wheelDigest_50 ?_))))
  refine go_V3 mcX12_nightDigest mvX12_nightDigest kX12_290 rfl dX12_wheelDigest_51 rfl rfl (mNightD_5 (hR.ma hA) hk _) ?_
  rintro _ m51 ⟨rfl, hN⟩
  have hR := hR.tr hN
  refine go_ls4 dX12_wheelDigest_54 rfl rfl (go_al0 dX12_wheelDigest_56 (go_ll4 dX12_wheelDigest_57 (go_bipush (v := 12) dX12_wheelDigest_59 (by decide) (go_il3 dX12_wheelDigest_61 ?_))))
  refine go_V3 mcX12_nightDigest mvX12_nightDigest kX12_290 rfl dX12_wheelDigest_62 rfl rfl (mNightD_12 (hR.ma hA) hk _) ?_
  rintro _ m62 ⟨rfl, hN⟩
  have hR := hR.tr hN
  refine go_ls4 dX12_wheelDigest_65 rfl rfl (go_al0 dX12_wheelDigest_67 (go_ll4 dX12_wheelDigest_68 (go_bipush (v := 29) dX12_wheelDigest_70 (by decide) (go_il3 dX12_wheelDigest_72 ?_))))
  refine go_V3 mcX12_nightDigest mvX12_nightDigest kX12_290 rfl dX12_wheelDigest_73 rfl rfl (mNightD_29 (hR.ma hA) hk _) ?_
  rintro _ m73 ⟨rfl, hN⟩
  have hR := hR.tr hN
  refine go_ls4 dX12_wheelDigest_76 rfl rfl (go_ldc2 dX12_wheelDigest_78 nX12_288 (go_ll4 dX12_wheelDigest_81 (go_lmul dX12_wheelDigest_83 (go_al0 dX12_wheelDigest_84 (go_il3 dX12_wheelDigest_85 ?_)))))
  refine go_V1 mcX12_longsOf mvX12_longsOf kX12_206 rfl dX12_wheelDigest_86 rfl rfl (mLongsOf (hR.ma hA) hk) ?_
  rintro _ m86 ⟨rfl, hN⟩
  have hR := hR.tr hN
  refine go_i2l dX12_wheelDigest_89 (go_ladd dX12_wheelDigest_90 (go_ls4 dX12_wheelDigest_91 rfl rfl (go_al0 dX12_wheelDigest_93 (go_il3 dX12_wheelDigest_94 (go_bipush (v := 12) dX12_wheelDigest_95 (by decide) ?_)))))
  refine go_V2 mcX12_ripeBy mvX12_ripeBy kX12_222 rfl dX12_wheelDigest_97 rfl rfl (mRipe12 (hR.ma hA) hk) ?_
  rintro _ m97 ⟨rfl, hN, hRow⟩
  have hR := hR.tr hN
  refine go_is6 dX12_wheelDigest_100 rfl rfl (go_ldc2 dX12_wheelDigest_102 nX12_288 (go_ll4 dX12_wheelDigest_105 (go_lmul dX12_wheelDigest_107 (go_il6 dX12_wheelDigest_108 (go_i2l dX12_wheelDigest_110 (go_ladd dX12_wheelDigest_111 (go_ls4 dX12_wheelDigest_112 rfl rfl (go_ldc2 dX12_wheelDigest_114 nX12_288 (go_ll4 dX12_wheelDigest_117 (go_lmul dX12_wheelDigest_119 (go_al0 dX12_wheelDigest_120 (go_il6 dX12_wheelDigest_121 (go_ic0 dX12_wheelDigest_123 ?_)))))))))))))
  refine go_V2r mcX12_ofRow mvX12_ofRow kX12_225 rfl dX12_wheelDigest_124 rfl rfl (mOfRow_0 hRow) (go_i2l dX12_wheelDigest_127 (go_ladd dX12_wheelDigest_128 (go_ls4 dX12_wheelDigest_129 rfl rfl (go_ldc2 dX12_wheelDigest_131 nX12_288 (go_ll4 dX12_wheelDigest_134 (go_lmul dX12_wheelDigest_136 (go_al0 dX12_wheelDigest_137 (go_il3 dX12_wheelDigest_138 (go_ic0 dX12_wheelDigest_139 ?_)))))))))
  refine go_V2 mcX12_coldOf mvX12_coldOf kX12_228 rfl dX12_wheelDigest_140 rfl rfl (mColdOf (hR.ma hA) hk _) ?_
  rintro _ m140 ⟨rfl, hN⟩
  have hR := hR.tr hN
  refine go_i2l dX12_wheelDigest_143 (go_ladd dX12_wheelDigest_144 (go_ls4 dX12_wheelDigest_145 rfl rfl (go_ldc2 dX12_wheelDigest_147 nX12_288 (go_ll4 dX12_wheelDigest_150 (go_lmul dX12_wheelDigest_152 (go_al0 dX12_wheelDigest_153 (go_il3 dX12_wheelDigest_154 (go_ic1 dX12_wheelDigest_155 ?_))))))))
  refine go_V2 mcX12_coldOf mvX12_coldOf kX12_228 rfl dX12_wheelDigest_156 rfl rfl (mColdOf (hR.ma hA) hk _) ?_
  rintro _ m156 ⟨rfl, hN⟩
  have hR := hR.tr hN
  refine go_i2l dX12_wheelDigest_159 (go_ladd dX12_wheelDigest_160 (go_ls4 dX12_wheelDigest_161 rfl rfl (go_ldc2 dX12_wheelDigest_163 nX12_288 (go_ll4 dX12_wheelDigest_166 (go_lmul dX12_wheelDigest_168 (go_al0 dX12_wheelDigest_169 (go_il3 dX12_wheelDigest_170 (go_ic0 dX12_wheelDigest_171 ?_))))))))
  refine go_V2 mcX12_comeOf mvX12_comeOf kX12_231 rfl dX12_wheelDigest_172 rfl rfl (mComeOf (hR.ma hA) hk _) ?_
  rintro _ m172 ⟨rfl, hN⟩
  have hR := hR.tr hN
  refine go_i2l dX12_wheelDigest_175 (go_ladd dX12_wheelDigest_176 (go_ls4 dX12_wheelDigest_177 rfl rfl (go_ldc2 dX12_wheelDigest_179 nX12_288 (go_ll4 dX12_wheelDigest_182 (go_lmul dX12_wheelDigest_184 (go_al0 dX12_wheelDigest_185 (go_il3 dX12_wheelDigest_186 (go_ic1 dX12_wheelDigest_187 ?_))))))))
  refine go_V2 mcX12_comeOf mvX12_comeOf kX12_231 rfl dX12_wheelDigest_188 rfl rfl (mComeOf (hR.ma hA) hk _) ?_
  rintro _ m188 ⟨rfl, hN⟩
  have hR := hR.tr hN
  refine go_i2l dX12_wheelDigest_191 (go_ladd dX12_wheelDigest_192 (go_ls4 dX12_wheelDigest_193 rfl rfl (go_ldc2 dX12_wheelDigest_195 nX12_288 (go_ll4 dX12_wheelDigest_198 (go_lmul dX12_wheelDigest_200 (go_al0 dX12_wheelDigest_201 (go_il3 dX12_wheelDigest_202 ?_)))))))
  refine go_V1 mcX12_fromBy mvX12_fromBy kX12_246 rfl dX12_wheelDigest_203 rfl rfl (mFromBy (hR.ma hA) hk) ?_
  rintro _ m203 ⟨rfl, hN, _⟩
  have hR := hR.tr hN
  refine go_i2l dX12_wheelDigest_206 (go_ladd dX12_wheelDigest_207 (go_ls4 dX12_wheelDigest_208 rfl rfl (go_ldc2 dX12_wheelDigest_210 nX12_288 (go_ll4 dX12_wheelDigest_213 (go_lmul dX12_wheelDigest_215 (go_al0 dX12_wheelDigest_216 (go_il3 dX12_wheelDigest_217 ?_)))))))
  refine go_V1 mcX12_sortBy mvX12_sortBy kX12_249 rfl dX12_wheelDigest_218 rfl rfl (mSortBy (hR.ma hA) hk) ?_
  rintro _ m218 ⟨rfl, hN⟩
  have hR := hR.tr hN
  refine go_i2l dX12_wheelDigest_221 (go_ladd dX12_wheelDigest_222 (go_ls4 dX12_wheelDigest_223 rfl rfl (go_ldc2 dX12_wheelDigest_225 nX12_288 (go_ll4 dX12_wheelDigest_228 (go_lmul dX12_wheelDigest_230 (go_al0 dX12_wheelDigest_231 (go_il3 dX12_wheelDigest_232 ?_)))))))
  refine go_V1 mcX12_askOf mvX12_askOf kX12_252 rfl dX12_wheelDigest_233 rfl rfl (mAskOf (hR.ma hA) hk) ?_
  rintro _ m233 ⟨rfl, hN⟩
  have hR := hR.tr hN
  refine go_i2l dX12_wheelDigest_236 (go_ladd dX12_wheelDigest_237 (go_ls4 dX12_wheelDigest_238 rfl rfl (go_ldc2 dX12_wheelDigest_240 nX12_288 (go_ll4 dX12_wheelDigest_243 (go_lmul dX12_wheelDigest_245 (go_al0 dX12_wheelDigest_246 (go_ic5 dX12_wheelDigest_247 (go_ic5 dX12_wheelDigest_248 (go_il3 dX12_wheelDigest_249 (go_bipush (v := 12) dX12_wheelDigest_250 (by decide) (go_ic0 dX12_wheelDigest_252 ?_)))))))))))
  refine go_V5 mcX12_frostOf mvX12_frostOf kX12_259 rfl dX12_wheelDigest_253 rfl rfl (mFrost5 (hR.ma hA) hk _) ?_
  rintro _ m253 ⟨rfl, hN⟩
  have hR := hR.tr hN
  refine go_ladd dX12_wheelDigest_256 (go_ls4 dX12_wheelDigest_257 rfl rfl (go_ldc2 dX12_wheelDigest_259 nX12_288 (go_ll4 dX12_wheelDigest_262 (go_lmul dX12_wheelDigest_264 (go_al0 dX12_wheelDigest_265 (go_ic5 dX12_wheelDigest_266 (go_ic5 dX12_wheelDigest_267 (go_il3 dX12_wheelDigest_268 (go_bipush (v := 12) dX12_wheelDigest_269 (by decide) (go_ic1 dX12_wheelDigest_271 ?_))))))))))
  refine go_V5 mcX12_frostOf mvX12_frostOf kX12_259 rfl dX12_wheelDigest_272 rfl rfl (mFrost5 (hR.ma hA) hk _) ?_
  rintro _ m272 ⟨rfl, hN⟩
  have hR := hR.tr hN
  refine go_ladd dX12_wheelDigest_275 ?_
  refine go_lret dX12_wheelDigest_276 ?_
  exact ⟨rfl, hR⟩
set_option maxRecDepth 100000 in
set_option maxHeartbeats 400000 in
theorem mWD_loop {r : RS} {μ m : gm_M} (hA : MA r μ) (hR : RDp r μ m) {k : Nat} (hk : k < qnum (qof r)) (h0 : Int64) : ∀ (k_ n : Nat), 8 - n = k_ → n ≤ 8 → Go yX12_wheelDigest cX12_wheelDigest 7 (some .long) 10 6 [some (.ref 52), some (.long h0), none, some (.int (nI k)), some (.long (mixN (dWh (qof r) k) n h0)), none, some (.int (nI n))] [] m (fun r' μ' => r' = some (.long (dW (qof r) k h0)) ∧ RDp r μ μ') := by
  intro k_
  induction k_ using Nat.strongRecOn with
  | ind k_ ih =>
    intro n  hk_ hj 
    refine go_il6 dX12_wheelDigest_6 (go_bipush (v := 8) dX12_wheelDigest_8 (by decide) ?_)
    refine go_cge 36 dX12_wheelDigest_10 (by decide) (fun h10 => ?_) (fun h10 => ?_)
    · have he : n = 8 := Nat.le_antisymm hj ((gm_bdN (by decide) (by decide) (by omega)).mp h10)
      subst he
      exact mWD_tail hA hR hk h0 _ _
    · have hlt : n < 8 := Nat.not_le.mp (fun zz => h10 ((gm_bdN (by decide) (by decide) (by omega)).mpr zz))
      refine go_ldc2 dX12_wheelDigest_13 nX12_288 (go_ll4 dX12_wheelDigest_16 (go_lmul dX12_wheelDigest_18 (go_al0 dX12_wheelDigest_19 (go_il3 dX12_wheelDigest_20 (go_il6 dX12_wheelDigest_21 (go_V2r mcX12_wheelOf mvX12_wheelOf kX12_145 rfl dX12_wheelDigest_23 rfl rfl (mWheelOf hR.1 hk hlt) (go_i2l dX12_wheelDigest_26 (go_ladd dX12_wheelDigest_27 (go_ls4 dX12_wheelDigest_28 rfl rfl (go_inc6 (k := 1) dX12_wheelDigest_30 (by decide) rfl rfl (go_goto 6 dX12_wheelDigest_33 (by decide) ?_)))))))))))
      rw [nI_1]
      exact ih (8 - (n + 1)) (by omega) (n + 1) rfl (by omega)

set_option maxRecDepth 100000 in
set_option maxHeartbeats 400000 in
theorem mWheelD {r : RS} {μ m : gm_M} (hA : MA r μ) (hR : RDp r μ m) {k : Nat} (hk : k < qnum (qof r)) (h0 : Int64) : Sat yX12_wheelDigest cX12_wheelDigest 7 (some .long) 10 [.ref 52, .long h0, .int (nI k)] m (fun r' μ' => r' = some (.long (dW (qof r) k h0)) ∧ RDp r μ μ') := by
  refine Sat.of (L := [some (.ref 52), some (.long h0), none, some (.int (nI k)), none, none, none]) (by decide) (fun _ => rfl) (fun _ => rfl) ?_
  refine go_ll1 dX12_wheelDigest_0 (go_ls4 dX12_wheelDigest_1 rfl rfl (go_ic0 dX12_wheelDigest_3 (go_is6 dX12_wheelDigest_4 rfl rfl ?_)))
  exact mWD_loop hA hR hk h0 _ 0 rfl (by decide)
set_option maxRecDepth 100000 in
set_option maxHeartbeats 400000 in
theorem mDg_5 {r : RS} {μ m : gm_M} (hA : MA r μ) (hR : RDp r μ m) (h1 : Int64) (d3 : Option Value) : Go yX12_digest cX12_digest 4 (some .long) 11 203 [some (.ref 52), some (.long h1), none, d3] [] m (fun r' μ' => r' = some (.long (mx (mx (mx (mx (mx h1 (sHush (qof r)).toInt64) (nI (saleC (qof r))).toInt64) (sNever (qof r)).toInt64) (qsumT (qof r) 7 20).toInt64) (nI (qse (qof r) 7 20 (qnum (qof r)))).toInt64)) ∧ MA r μ' ∧ FX lQ fQ μ μ') := by
  refine go_ldc2 dX12_digest_203 nX12_288 (go_ll1 dX12_digest_206 (go_lmul dX12_digest_207 (go_al0 dX12_digest_208 ?_)))
  refine go_V0 mcX12_hushNow mvX12_hushNow kX12_216 rfl dX12_digest_209 rfl rfl (mHushNow (hR.ma hA)) ?_
  rintro _ m209 ⟨rfl, hN⟩
  have hR := hR.tr hN
  refine go_i2l dX12_digest_212 (go_ladd dX12_digest_213 (go_ls1 dX12_digest_214 rfl rfl (go_ldc2 dX12_digest_215 nX12_288 (go_ll1 dX12_digest_218 (go_lmul dX12_digest_219 (go_al0 dX12_digest_220 ?_))))))
  refine go_V0 mcX12_saleNow mvX12_saleNow kX12_234 rfl dX12_digest_221 rfl rfl (mSaleNow (hR.ma hA)) ?_
  rintro _ m221 ⟨rfl, hN⟩
  have hR := hR.tr hN
  refine go_i2l dX12_digest_224 (go_ladd dX12_digest_225 (go_ls1 dX12_digest_226 rfl rfl (go_ldc2 dX12_digest_227 nX12_288 (go_ll1 dX12_digest_230 (go_lmul dX12_digest_231 (go_al0 dX12_digest_232 ?_))))))
  refine go_V0 mcX12_neverNow mvX12_neverNow kX12_243 rfl dX12_digest_233 rfl rfl (mNeverNow (hR.ma hA)) ?_
  rintro _ m233 ⟨rfl, hN⟩
  have hR := hR.tr hN
  refine go_i2l dX12_digest_236 (go_ladd dX12_digest_237 (go_ls1 dX12_digest_238 rfl rfl (go_ldc2 dX12_digest_239 nX12_288 (go_ll1 dX12_digest_242 (go_lmul dX12_digest_243 (go_al0 dX12_digest_244 (go_bipush (v := 7) dX12_digest_245 (by decide) (go_bipush (v := 20) dX12_digest_247 (by decide) (go_ic0 dX12_digest_249 ?_)))))))))
  refine go_V3 mcX12_summerOf mvX12_summerOf kX12_268 rfl dX12_digest_250 rfl rfl (mSum7 (hR.ma hA) _) ?_
  rintro _ m250 ⟨rfl, hN⟩
  have hR := hR.tr hN
  refine go_i2l dX12_digest_253 (go_ladd dX12_digest_254 (go_ls1 dX12_digest_255 rfl rfl (go_ldc2 dX12_digest_256 nX12_288 (go_ll1 dX12_digest_259 (go_lmul dX12_digest_260 (go_al0 dX12_digest_261 (go_bipush (v := 7) dX12_digest_262 (by decide) (go_bipush (v := 20) dX12_digest_264 (by decide) (go_ic1 dX12_digest_266 ?_)))))))))
  refine go_V3 mcX12_summerOf mvX12_summerOf kX12_268 rfl dX12_digest_267 rfl rfl (mSum7 (hR.ma hA) _) ?_
  rintro _ m267 ⟨rfl, hN⟩
  have hR := hR.tr hN
  refine go_i2l dX12_digest_270 (go_ladd dX12_digest_271 ?_)
  refine go_lret dX12_digest_272 ?_
  exact ⟨rfl, hR.ma hA, hR.2.2⟩
set_option maxRecDepth 100000 in
set_option maxHeartbeats 400000 in
theorem mDg_4 {r : RS} {μ : gm_M} (hA : MA r μ) (h1 : Int64) : ∀ (k_ n : Nat) (m : gm_M), 8 - n = k_ → n ≤ 8 → (RDp r μ m) → Go yX12_digest cX12_digest 4 (some .long) 11 163 [some (.ref 52), some (.long (whl (dCh (qof r)) n h1)), none, some (.int (nI n))] [] m (fun r' μ' => r' = some (.long (mx (mx (mx (mx (mx (whl (dCh (qof r)) 8 h1) (sHush (qof r)).toInt64) (nI (saleC (qof r))).toInt64) (sNever (qof r)).toInt64) (qsumT (qof r) 7 20).toInt64) (nI (qse (qof r) 7 20 (qnum (qof r)))).toInt64)) ∧ MA r μ' ∧ FX lQ fQ μ μ') := by
  intro k_
  induction k_ using Nat.strongRecOn with
  | ind k_ ih =>
    intro n m  hk_ hj hR
    refine go_il3 dX12_digest_163 (go_bipush (v := 8) dX12_digest_164 (by decide) ?_)
    refine go_cge 203 dX12_digest_166 (by decide) (fun h166 => ?_) (fun h166 => ?_)
    · have he : n = 8 := Nat.le_antisymm hj ((gm_bdN (by decide) (by decide) (by omega)).mp h166)
      subst he
      exact mDg_5 hA hR _ _
    · have hlt : n < 8 := Nat.not_le.mp (fun zz => h166 ((gm_bdN (by decide) (by decide) (by omega)).mpr zz))
      refine go_ldc2 dX12_digest_169 nX12_288 (go_ll1 dX12_digest_172 (go_lmul dX12_digest_173 (go_al0 dX12_digest_174 (go_il3 dX12_digest_175 (go_ic0 dX12_digest_176 ?_)))))
      refine go_V2 mcX12_chordOf mvX12_chordOf kX12_212 rfl dX12_digest_177 rfl rfl (mChordOf (hR.ma hA) hlt _) ?_
      rintro _ m177 ⟨rfl, hN⟩
      have hR := hR.tr hN
      refine go_i2l dX12_digest_180 (go_ladd dX12_digest_181 (go_ls1 dX12_digest_182 rfl rfl (go_ldc2 dX12_digest_183 nX12_288 (go_ll1 dX12_digest_186 (go_lmul dX12_digest_187 (go_al0 dX12_digest_188 (go_il3 dX12_digest_189 (go_ic1 dX12_digest_190 ?_))))))))
      refine go_V2 mcX12_chordOf mvX12_chordOf kX12_212 rfl dX12_digest_191 rfl rfl (mChordOf (hR.ma hA) hlt _) ?_
      rintro _ m191 ⟨rfl, hN⟩
      have hR := hR.tr hN
      refine go_i2l dX12_digest_194 (go_ladd dX12_digest_195 (go_ls1 dX12_digest_196 rfl rfl (go_inc3 (k := 1) dX12_digest_197 (by decide) rfl rfl (go_goto 163 dX12_digest_200 (by decide) ?_))))
      rw [nI_1]
      exact ih (8 - (n + 1)) (by omega) (n + 1) _ rfl (by omega) hR

set_option maxRecDepth 100000 in
set_option maxHeartbeats 400000 in
theorem mDg_3 {r : RS} {μ m : gm_M} (hA : MA r μ) (hR : RDp r μ m) (h1 : Int64) (d3 : Option Value) : Go yX12_digest cX12_digest 4 (some .long) 11 135 [some (.ref 52), some (.long h1), none, d3] [] m (fun r' μ' => r' = some (.long (dA (qof r) h1)) ∧ MA r μ' ∧ FX lQ fQ μ μ') := by
  refine go_ldc2 dX12_digest_135 nX12_288 (go_ll1 dX12_digest_138 (go_lmul dX12_digest_139 (go_al0 dX12_digest_140 (go_ic0 dX12_digest_141 ?_))))
  refine go_V1 mcX12_screamOf mvX12_screamOf kX12_209 rfl dX12_digest_142 rfl rfl (mScreamOf (hR.ma hA) _) ?_
  rintro _ m142 ⟨rfl, hN⟩
  have hR := hR.tr hN
  refine go_i2l dX12_digest_145 (go_ladd dX12_digest_146 (go_ls1 dX12_digest_147 rfl rfl (go_ldc2 dX12_digest_148 nX12_288 (go_ll1 dX12_digest_151 (go_lmul dX12_digest_152 (go_al0 dX12_digest_153 (go_ic1 dX12_digest_154 ?_)))))))
  refine go_V1 mcX12_screamOf mvX12_screamOf kX12_209 rfl dX12_digest_155 rfl rfl (mScreamOf (hR.ma hA) _) ?_
  rintro _ m155 ⟨rfl, hN⟩
  have hR := hR.tr hN
  refine go_i2l dX12_digest_158 (go_ladd dX12_digest_159 (go_ls1 dX12_digest_160 rfl rfl (go_ic0 dX12_digest_161 (go_is3 dX12_digest_162 rfl rfl ?_))))
  exact mDg_4 hA _ _ 0 _ rfl (by decide) hR
set_option maxRecDepth 100000 in
set_option maxHeartbeats 400000 in
theorem mDg_2 {r : RS} {μ : gm_M} (hA : MA r μ) (h1 : Int64) (h8 : qnum (qof r) ≤ 8) : ∀ (k_ n : Nat) (m : gm_M), qnum (qof r) - n = k_ → n ≤ qnum (qof r) → (RDp r μ m) → Go yX12_digest cX12_digest 4 (some .long) 11 114 [some (.ref 52), some (.long (whl (dW (qof r)) n h1)), none, some (.int (nI n))] [] m (fun r' μ' => r' = some (.long (dA (qof r) (whl (dW (qof r)) (qnum (qof r)) h1))) ∧ MA r μ' ∧ FX lQ fQ μ μ') := by
  intro k_
  induction k_ using Nat.strongRecOn with
  | ind k_ ih =>
    intro n m  hk_ hj hR
    refine go_il3 dX12_digest_114 (go_al0 dX12_digest_115 (go_getI fX12_119 rfl rfl dX12_digest_116 ?_))
    refine go_cge 135 dX12_digest_119 (by decide) (fun h119 => ?_) (fun h119 => ?_)
    · have he : n = qnum (qof r) := Nat.le_antisymm hj ((gm_bdN hR.1.2.1 (by omega) (by omega)).mp h119)
      subst he
      exact mDg_3 hA hR _ _
    · have hlt : n < qnum (qof r) := Nat.not_le.mp (fun zz => h119 ((gm_bdN hR.1.2.1 (by omega) (by omega)).mpr zz))
      refine go_al0 dX12_digest_122 (go_ll1 dX12_digest_123 (go_il3 dX12_digest_124 ?_))
      refine go_V2 mcX12_wheelDigest mvX12_wheelDigest kX12_299 rfl dX12_digest_125 rfl rfl (mWheelD hA hR hlt _) ?_
      rintro _ m125 ⟨rfl, hR⟩
      refine go_ls1 dX12_digest_128 rfl rfl (go_inc3 (k := 1) dX12_digest_129 (by decide) rfl rfl (go_goto 114 dX12_digest_132 (by decide) ?_))
      rw [nI_1]
      exact ih (qnum (qof r) - (n + 1)) (by omega) (n + 1) _ rfl (by omega) hR

set_option maxRecDepth 100000 in
set_option maxHeartbeats 400000 in
theorem mDg_1 {r : RS} {μ m : gm_M} (hA : MA r μ) (hM : MA r m) (hF : FX lQ fQ μ m) (h1 : Int64) (d3 : Option Value) : Go yX12_digest cX12_digest 4 (some .long) 11 31 [some (.ref 52), some (.long h1), none, d3] [] m (fun r' μ' => r' = some (.long (dA (qof r) (whl (dW (qof r)) (qnum (qof r)) (mixN (fun j => (nI (qwa (qof r) (dWn j))).toInt64) 4 (mx (mx h1 (oI (pres (ra0 r).1 (ra0 r).2).1).toInt64) (oI (cavF (ra1 r).1 (ra1 r).2)).toInt64))))) ∧ MA r μ' ∧ FX lQ fQ μ μ') := by
  refine go_ldc2 dX12_digest_31 nX12_288 (go_ll1 dX12_digest_34 (go_lmul dX12_digest_35 (go_al0 dX12_digest_36 (go_ic0 dX12_digest_37 ?_))))
  refine go_V1 mcX12_faultOf mvX12_faultOf kX12_136 rfl dX12_digest_38 rfl rfl (mFaultOf hM _) ?_
  rintro _ m38 ⟨rfl, hN⟩
  have hR := RDp.of hF hN
  refine go_i2l dX12_digest_41 (go_ladd dX12_digest_42 (go_ls1 dX12_digest_43 rfl rfl (go_ldc2 dX12_digest_44 nX12_288 (go_ll1 dX12_digest_47 (go_lmul dX12_digest_48 (go_al0 dX12_digest_49 (go_ic1 dX12_digest_50 ?_)))))))
  refine go_V1 mcX12_faultOf mvX12_faultOf kX12_136 rfl dX12_digest_51 rfl rfl (mFaultOf (hR.ma hA) _) ?_
  rintro _ m51 ⟨rfl, hN⟩
  have hR := hR.tr hN
  refine go_i2l dX12_digest_54 (go_ladd dX12_digest_55 (go_ls1 dX12_digest_56 rfl rfl (go_ldc2 dX12_digest_57 nX12_288 (go_ll1 dX12_digest_60 (go_lmul dX12_digest_61 (go_al0 dX12_digest_62 (go_ic0 dX12_digest_63 ?_)))))))
  refine go_V1 mcX12_warmOf mvX12_warmOf kX12_151 rfl dX12_digest_64 rfl rfl (mWarm_0 (hR.ma hA)) ?_
  rintro _ m64 ⟨rfl, hN⟩
  have hR := hR.tr hN
  refine go_i2l dX12_digest_67 (go_ladd dX12_digest_68 (go_ls1 dX12_digest_69 rfl rfl (go_ldc2 dX12_digest_70 nX12_288 (go_ll1 dX12_digest_73 (go_lmul dX12_digest_74 (go_al0 dX12_digest_75 (go_bipush (v := 9) dX12_digest_76 (by decide) ?_)))))))
  refine go_V1 mcX12_warmOf mvX12_warmOf kX12_151 rfl dX12_digest_78 rfl rfl (mWarm_9 (hR.ma hA)) ?_
  rintro _ m78 ⟨rfl, hN⟩
  have hR := hR.tr hN
  refine go_i2l dX12_digest_81 (go_ladd dX12_digest_82 (go_ls1 dX12_digest_83 rfl rfl (go_ldc2 dX12_digest_84 nX12_288 (go_ll1 dX12_digest_87 (go_lmul dX12_digest_88 (go_al0 dX12_digest_89 (go_bipush (v := 19) dX12_digest_90 (by decide) ?_)))))))
  refine go_V1 mcX12_warmOf mvX12_warmOf kX12_151 rfl dX12_digest_92 rfl rfl (mWarm_19 (hR.ma hA)) ?_
  rintro _ m92 ⟨rfl, hN⟩
  have hR := hR.tr hN
  refine go_i2l dX12_digest_95 (go_ladd dX12_digest_96 (go_ls1 dX12_digest_97 rfl rfl (go_ldc2 dX12_digest_98 nX12_288 (go_ll1 dX12_digest_101 (go_lmul dX12_digest_102 (go_al0 dX12_digest_103 (go_bipush (v := 29) dX12_digest_104 (by decide) ?_)))))))
  refine go_V1 mcX12_warmOf mvX12_warmOf kX12_151 rfl dX12_digest_106 rfl rfl (mWarm_29 (hR.ma hA)) ?_
  rintro _ m106 ⟨rfl, hN⟩
  have hR := hR.tr hN
  refine go_i2l dX12_digest_109 (go_ladd dX12_digest_110 (go_ls1 dX12_digest_111 rfl rfl (go_ic0 dX12_digest_112 (go_is3 dX12_digest_113 rfl rfl ?_))))
  exact mDg_2 hA _ hR.1.1.1 _ 0 _ rfl (Nat.zero_le _) hR
set_option maxRecDepth 100000 in
set_option maxHeartbeats 400000 in
theorem mDg_0 {r : RS} {μ : gm_M} (hA : MA r μ) : ∀ (k_ n : Nat) (m : gm_M), 8 - n = k_ → n ≤ 8 → (MA r m) → (FX lQ fQ μ m) → Go yX12_digest cX12_digest 4 (some .long) 11 6 [some (.ref 52), some (.long (mixN (fun j => (sCount r (nI j)).toInt64) n 17)), none, some (.int (nI n))] [] m (fun r' μ' => r' = some (.long (sDig r)) ∧ MA r μ' ∧ FX lQ fQ μ μ') := by
  intro k_
  induction k_ using Nat.strongRecOn with
  | ind k_ ih =>
    intro n m  hk_ hj hM hF
    refine go_il3 dX12_digest_6 (go_bipush (v := 8) dX12_digest_7 (by decide) ?_)
    refine go_cge 31 dX12_digest_9 (by decide) (fun h9 => ?_) (fun h9 => ?_)
    · have he : n = 8 := Nat.le_antisymm hj ((gm_bdN (by decide) (by decide) (by omega)).mp h9)
      subst he
      exact mDg_1 hA hM hF _ _
    · have hlt : n < 8 := Nat.not_le.mp (fun zz => h9 ((gm_bdN (by decide) (by decide) (by omega)).mpr zz))
      refine go_ldc2 dX12_digest_12 nX12_288 (go_ll1 dX12_digest_15 (go_lmul dX12_digest_16 (go_al0 dX12_digest_17 (go_il3 dX12_digest_18 ?_))))
      refine go_V1 mcX12_count mvX12_count kX12_296 rfl dX12_digest_19 rfl rfl (m_count hM _) ?_
      rintro _ m19 ⟨rfl, hM, hN⟩
      have hF := hF.tr hN
      refine go_i2l dX12_digest_22 (go_ladd dX12_digest_23 (go_ls1 dX12_digest_24 rfl rfl (go_inc3 (k := 1) dX12_digest_25 (by decide) rfl rfl (go_goto 6 dX12_digest_28 (by decide) ?_))))
      rw [nI_1]
      exact ih (8 - (n + 1)) (by omega) (n + 1) _ rfl (by omega) hM hF

set_option maxRecDepth 100000 in
set_option maxHeartbeats 400000 in
theorem m_digest {r : RS} {μ : gm_M} (hA : MA r μ) : Sat yX12_digest cX12_digest 4 (some .long) 11 [(.ref 52)] μ (fun r' μ' => r' = some (.long (sDig r)) ∧ MA r μ' ∧ FX lQ fQ μ μ') := by
  refine Sat.of (L := [some (.ref 52), none, none, none]) (by decide) (fun _ => rfl) (fun _ => rfl) ?_
  refine go_ldc2 dX12_digest_0 nX12_294 (go_ls1 dX12_digest_3 rfl rfl (go_ic0 dX12_digest_4 (go_is3 dX12_digest_5 rfl rfl ?_)))
  exact mDg_0 hA _ 0 _ rfl (by decide) hA (FX.rf μ)

