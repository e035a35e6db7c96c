def jnO (ρ : Nat → Int32) (c : Nat) : Nat → (Nat → Int32)
  | 0 => fun _ => 0
  | j + 1 => if ρ (35 + j) = 0 then putF (jnO ρ c j) (cntS ρ j) (heF ρ j c) else jnO ρ c j
def jnM (ρ : Nat → Int32) (n f c : Nat) : Int32 := fl2 (jnO ρ c n f + jnO ρ c n (cntS ρ n - 1 - f))
def jrC (f : Nat → Int32) (c a : Nat) : Nat → Int32 := upd f (184 + a) (if f (172 + a) = nI c ∧ f (178 + a) ≤ f (3 + c) then nI 1 else f (184 + a))
def jrA (f : Nat → Int32) (c : Nat) : Nat → (Nat → Int32)
  | 0 => f
  | a + 1 => jrC (jrA f c a) c a
theorem jrA_at (f : Nat → Int32) (c : Nat) : ∀ (m k : Nat), (k < 184 ∨ 184 + m ≤ k) → jrA f c m k = f k
  | 0, _, _ => rfl
  | m + 1, k, h => by
    unfold jrA jrC
    rw [upd_ne _ _ (by omega)]
    exact jrA_at f c m k (by omega)
def jnW (f : Nat → Int32) (x : Int32) (c : Nat) : Nat → Int32 := upd (upd (upd f (3 + c) x) (19 + c) (nI 0)) (35 + c) (nI 0)
def F_join (v : Vm2) (n f K ma : Nat) (c : Int32) : Int32 × Vm2 := if ¬ clkB n c then (UN, v) else if v 179 (35 + ix c) = 0 ∨ cntS (v 179) n < 2 * f + 1 then (NO, v) else (jnM (v 179) n f (ix c), upR (rmF v K) 179 (jrA (jnW ((rmF v K) 179) (jnM (v 179) n f (ix c)) (ix c)) (ix c) ma))

theorem rmF_ord (v : Vm2) (K : Nat) (o : Nat → Int32) : rmF (upR v 183 o) K = upR (rmF v K) 183 o := by
  funext a
  by_cases h : a = 183
  · subst h
    rw [upR_self, rmF_o _ (by decide) (by decide), upR_self]
  · rw [upR_ne _ _ h]
    unfold rmF
    split
    · funext b
      simp only [up2, cpK, shK]
      rw [upR_ne _ _ h, upR_ne _ _ (show (179 : Nat) ≠ 183 by decide)]
    · funext b
      simp only [up2, cpK]
      rw [upR_ne _ _ h, upR_ne _ _ (show (179 : Nat) ≠ 183 by decide)]
theorem jw_at (v : Vm2) {K n c m k : Nat} {x : Int32} (hk : K ≤ 16) (h1 : k < 192) (h2 : k ≠ 3 + c) (h3 : k ≠ 19 + c) (h4 : k ≠ 35 + c) (h5 : k < 184 ∨ 184 + m ≤ k) : jrA (jnW ((rmF v K) 179) x c) c m k = v 179 k := by
  rw [jrA_at _ _ _ _ h5]
  unfold jnW
  rw [upd_ne _ _ h4, upd_ne _ _ h3, upd_ne _ _ h2]
  exact rmF_row v hk k h1
theorem EqR.jn {v : Vm2} {o r : Nat → Int32} : EqR (upR (upR v 183 o) 179 r) (upR v 179 r) := by
  refine ⟨fun c c1 c2 c3 c4 => ?_, fun b hb => ?_, fun i hi => ?_⟩
  · rw [upR_ne _ _ c2, upR_ne _ _ c3, upR_ne _ _ c2]
  · rw [upR_self, upR_self]
  · rw [upR_ne _ _ (by decide), upR_ne _ _ (by decide), upR_ne _ _ (by decide)]
set_option maxHeartbeats 4000000 in
set_option maxRecDepth 100000 in
theorem p_joinN (w : Wd) (v : Vm2) {n f K ma c : Nat} (hn0 : v 179 0 = nI n) (hn : n ≤ 8) (hf : v 179 1 = nI f) (hf3 : f < 4) (hk0 : v 178 1 = nI K) (hk : K ≤ 16) (hm0 : v 179 171 = nI ma) (hma : ma ≤ 6) (hc : c < n) : CI w yX8_join cX8_join 5 (some .int) (rm 2 46) [.ref (wN w + 178), .int (nI c)] v (fun r v' => r = (F_join v n f K ma (nI c)).1 ∧ EqR v' (F_join v n f K ma (nI c)).2) := by
  have hcl : clkB n (nI c) := (clkB_nI (by omega)).mpr ⟨c, hc, rfl⟩
  have hcs9 := cntS_le (v 179) n
  refine CI.of (by decide) (Nat.le_of_ble_eq_true rfl) ?_
  have hu9 : ∀ o, upR v 183 o 179 = v 179 := fun o => upR_ne v o (by decide)
  have lr : ¬ v 179 (35 + c) = 0 → 2 * f + 1 ≤ cntS (v 179) n → ∀ (o : Nat → Int32) (m a : Nat), a ≤ ma → ma - a < m → J w yX8_join cX8_join 5 (some .int) (rm 2 46) XT (ZJ w 185 0 0 (PI w (fun r v' => r = (F_join v n f K ma (nI c)).1 ∧ EqR v' (F_join v n f K ma (nI c)).2))) 127 [(0, .ref (wN w + 178)), (1, .int (nI c)), (2, .int (nI (cntS (v 179) n))), (3, .int (nI a))] [] 185 (hv w (upR (upR (rmF v K) 183 o) 179 (jrA (jnW ((rmF v K) 179) (jnM (v 179) n f c) c) c a))) 0 0 := by
    intro q1 q2 o m
    induction m with
    | zero =>
      intro a hi0 hm
      exact absurd hm (by omega)
    | succ m ih =>
      intro a hi0 hm
      refine J.iload_n 127 dX8_join_127 rfl rfl ?_
      refine J.aload_n 128 dX8_join_128 rfl rfl ?_
      refine V.getR 129 dX8_join_129 fl_RX8_7 r_178_0 ?_
      refine J.sipush 132 (nI 171) dX8_join_132 (by decide +kernel) ?_
      refine V.iald 135 dX8_join_135 a_179 (by omega) ?_
      refine J.top (congrFun (upR_self _ _ _) _) ?_
      refine J.top (b := nI ma) ((jw_at v hk (n := n) (by omega) (by omega) (by omega) (by omega) (by omega)).trans hm0) ?_
      refine V.icmp_ge 136 216 dX8_join_136 (by decide) (by omega) (by omega) (fun c136 => ?_) (fun c136 => ?_)
      · refine J.aload_n 216 dX8_join_216 rfl rfl ?_
        refine V.getR 217 dX8_join_217 fl_RX8_7 r_178_0 ?_
        refine J.iconst 220 (nI 3) dX8_join_220 (by decide +kernel) ?_
        refine J.iload_n 221 dX8_join_221 rfl rfl ?_
        refine V.iadd 222 dX8_join_222 ?_
        refine V.iald 223 dX8_join_223 a_179 (by omega) ?_
        refine J.top (congrFun (upR_self _ _ _) _) ?_
        refine J.top (b := jnM (v 179) n f c) (by rw [jrA_at _ _ _ _ (by omega)]; unfold jnW; rw [upd_ne _ _ (by omega), upd_ne _ _ (by omega), upd_self]) ?_
        obtain rfl : a = ma := by omega
        exact V.iret 224 dX8_join_224 (by unfold F_join; rw [if_neg (fun z => z hcl), ix_nI hc hn, if_neg (fun z => z.elim q1 (fun z => by omega))]; exact ⟨rfl, EqR.jn⟩)
      · refine J.aload_n 139 dX8_join_139 rfl rfl ?_
        refine V.getR 140 dX8_join_140 fl_RX8_7 r_178_0 ?_
        refine J.sipush 143 (nI 172) dX8_join_143 (by decide +kernel) ?_
        refine J.iload_n 146 dX8_join_146 rfl rfl ?_
        refine V.iadd 147 dX8_join_147 ?_
        refine V.iald 148 dX8_join_148 a_179 (by omega) ?_
        refine J.top (congrFun (upR_self _ _ _) _) ?_
        refine J.iload_n 149 dX8_join_149 rfl rfl ?_
        refine J.icmp_ne 150 178 dX8_join_150 (by decide) (fun c150 => ?_) (fun c150 => ?_)
        · refine J.iconst 178 (nI 0) dX8_join_178 (by decide +kernel) ?_
          refine J.istore 179 dX8_join_179 (by decide) ?_
          refine J.aload_n 181 dX8_join_181 rfl rfl ?_
          refine V.getR 182 dX8_join_182 fl_RX8_7 r_178_0 ?_
          refine J.sipush 185 (nI 184) dX8_join_185 (by decide +kernel) ?_
          refine J.iload_n 188 dX8_join_188 rfl rfl ?_
          refine V.iadd 189 dX8_join_189 ?_
          refine J.iload 190 dX8_join_190 rfl ?_
          refine J.if_eq 192 199 dX8_join_192 (by decide) (fun _ => ?_) (fun q => absurd q (by decide))
          refine J.aload_n 199 dX8_join_199 rfl rfl ?_
          refine V.getR 200 dX8_join_200 fl_RX8_7 r_178_0 ?_
          refine J.sipush 203 (nI 184) dX8_join_203 (by decide +kernel) ?_
          refine J.iload_n 206 dX8_join_206 rfl rfl ?_
          refine V.iadd 207 dX8_join_207 ?_
          refine V.iald 208 dX8_join_208 a_179 (by omega) ?_
          refine J.top (congrFun (upR_self _ _ _) _) ?_
          refine V.iast 209 dX8_join_209 a_179 (by omega) ?_
          refine V.heapv (up2_upR _ _ _ _ _) ?_
          refine V.iinc 210 dX8_join_210 rfl (by decide) ?_
          refine J.goto 213 127 dX8_join_213 (by decide) ?_
          refine J.drop 4 ?_
          have q := ih (a + 1) (by omega) (by omega)
          have e1 : jrA (jnW ((rmF v K) 179) (jnM (v 179) n f c) c) c (a + 1) = jrC (jrA (jnW ((rmF v K) 179) (jnM (v 179) n f c) c) c a) c a := rfl
          rw [e1] at q
          unfold jrC at q
          first | (rw [if_pos ⟨c150, Int32.not_lt.mp c171⟩] at q; exact q) | (rw [if_neg (fun z => absurd c171 (Int32.not_lt.mpr z.2))] at q; exact q) | (rw [if_neg (fun z => c150 z.1)] at q; exact q)
        · refine J.aload_n 153 dX8_join_153 rfl rfl ?_
          refine V.getR 154 dX8_join_154 fl_RX8_7 r_178_0 ?_
          refine J.iconst 157 (nI 3) dX8_join_157 (by decide +kernel) ?_
          refine J.iload_n 158 dX8_join_158 rfl rfl ?_
          refine V.iadd 159 dX8_join_159 ?_
          refine V.iald 160 dX8_join_160 a_179 (by omega) ?_
          refine J.top (congrFun (upR_self _ _ _) _) ?_
          refine J.aload_n 161 dX8_join_161 rfl rfl ?_
          refine V.getR 162 dX8_join_162 fl_RX8_7 r_178_0 ?_
          refine J.sipush 165 (nI 178) dX8_join_165 (by decide +kernel) ?_
          refine J.iload_n 168 dX8_join_168 rfl rfl ?_
          refine V.iadd 169 dX8_join_169 ?_
          refine V.iald 170 dX8_join_170 a_179 (by omega) ?_
          refine J.top (congrFun (upR_self _ _ _) _) ?_
          refine J.icmp_lt 171 178 dX8_join_171 (by decide) (fun c171 => ?_) (fun c171 => ?_)
          · refine J.iconst 178 (nI 0) dX8_join_178 (by decide +kernel) ?_
            refine J.istore 179 dX8_join_179 (by decide) ?_
            refine J.aload_n 181 dX8_join_181 rfl rfl ?_
            refine V.getR 182 dX8_join_182 fl_RX8_7 r_178_0 ?_
            refine J.sipush 185 (nI 184) dX8_join_185 (by decide +kernel) ?_
            refine J.iload_n 188 dX8_join_188 rfl rfl ?_
            refine V.iadd 189 dX8_join_189 ?_
            refine J.iload 190 dX8_join_190 rfl ?_
            refine J.if_eq 192 199 dX8_join_192 (by decide) (fun _ => ?_) (fun q => absurd q (by decide))
            refine J.aload_n 199 dX8_join_199 rfl rfl ?_
            refine V.getR 200 dX8_join_200 fl_RX8_7 r_178_0 ?_
            refine J.sipush 203 (nI 184) dX8_join_203 (by decide +kernel) ?_
            refine J.iload_n 206 dX8_join_206 rfl rfl ?_
            refine V.iadd 207 dX8_join_207 ?_
            refine V.iald 208 dX8_join_208 a_179 (by omega) ?_
            refine J.top (congrFun (upR_self _ _ _) _) ?_
            refine V.iast 209 dX8_join_209 a_179 (by omega) ?_
            refine V.heapv (up2_upR _ _ _ _ _) ?_
            refine V.iinc 210 dX8_join_210 rfl (by decide) ?_
            refine J.goto 213 127 dX8_join_213 (by decide) ?_
            refine J.drop 4 ?_
            have q := ih (a + 1) (by omega) (by omega)
            have e1 : jrA (jnW ((rmF v K) 179) (jnM (v 179) n f c) c) c (a + 1) = jrC (jrA (jnW ((rmF v K) 179) (jnM (v 179) n f c) c) c a) c a := rfl
            rw [e1] at q
            unfold jrC at q
            first | (rw [if_pos ⟨c150, Int32.not_lt.mp c171⟩] at q; exact q) | (rw [if_neg (fun z => absurd c171 (Int32.not_lt.mpr z.2))] at q; exact q) | (rw [if_neg (fun z => c150 z.1)] at q; exact q)
          · refine J.iconst 174 (nI 1) dX8_join_174 (by decide +kernel) ?_
            refine J.goto 175 179 dX8_join_175 (by decide) ?_
            refine J.istore 179 dX8_join_179 (by decide) ?_
            refine J.aload_n 181 dX8_join_181 rfl rfl ?_
            refine V.getR 182 dX8_join_182 fl_RX8_7 r_178_0 ?_
            refine J.sipush 185 (nI 184) dX8_join_185 (by decide +kernel) ?_
            refine J.iload_n 188 dX8_join_188 rfl rfl ?_
            refine V.iadd 189 dX8_join_189 ?_
            refine J.iload 190 dX8_join_190 rfl ?_
            refine J.if_eq 192 199 dX8_join_192 (by decide) (fun q => absurd q (by decide)) (fun _ => ?_)
            refine J.iconst 195 (nI 1) dX8_join_195 (by decide +kernel) ?_
            refine J.goto 196 209 dX8_join_196 (by decide) ?_
            refine V.iast 209 dX8_join_209 a_179 (by omega) ?_
            refine V.heapv (up2_upR _ _ _ _ _) ?_
            refine V.iinc 210 dX8_join_210 rfl (by decide) ?_
            refine J.goto 213 127 dX8_join_213 (by decide) ?_
            refine J.drop 4 ?_
            have q := ih (a + 1) (by omega) (by omega)
            have e1 : jrA (jnW ((rmF v K) 179) (jnM (v 179) n f c) c) c (a + 1) = jrC (jrA (jnW ((rmF v K) 179) (jnM (v 179) n f c) c) c a) c a := rfl
            rw [e1] at q
            unfold jrC at q
            first | (rw [if_pos ⟨c150, Int32.not_lt.mp c171⟩] at q; exact q) | (rw [if_neg (fun z => absurd c171 (Int32.not_lt.mpr z.2))] at q; exact q) | (rw [if_neg (fun z => c150 z.1)] at q; exact q)
  have KE : ∀ o : Nat → Int32, (∀ k, k < cntS (v 179) n → o k = jnO (v 179) c n k) → J w yX8_join cX8_join 5 (some .int) (rm 2 46) XT (ZJ w 185 0 0 (PI w (fun r v' => r = (F_join v n f K ma (nI c)).1 ∧ EqR v' (F_join v n f K ma (nI c)).2))) 58 [(0, .ref (wN w + 178)), (1, .int (nI c)), (2, .int (nI (cntS (v 179) n))), (3, .int (nI n))] [] 185 (hv w (upR v 183 o)) 0 0 := by
    intro o ho
    refine J.aload_n 58 dX8_join_58 rfl rfl ?_
    refine V.getR 59 dX8_join_59 fl_RX8_7 r_178_0 ?_
    refine J.bipush 62 (nI 35) dX8_join_62 (by decide +kernel) ?_
    refine J.iload_n 64 dX8_join_64 rfl rfl ?_
    refine V.iadd 65 dX8_join_65 ?_
    refine V.iald 66 dX8_join_66 a_179 (by omega) ?_
    refine J.top (b := v 179 (35 + c)) (by rw [hu9]) ?_
    refine J.if_eq 67 84 dX8_join_67 (by decide) (fun c67 => ?_) (fun c67 => ?_)
    · refine J.ldc 84 (-1000000003) dX8_join_84 kc_RX8_178 ?_
      exact V.iret 86 dX8_join_86 (by unfold F_join; rw [if_neg (fun z => z hcl), ix_nI hc hn, if_pos (by first | exact Or.inl c67 | exact Or.inr (by omega))]; exact ⟨rfl, EqR.ord _ _⟩)
    · refine J.iload_n 70 dX8_join_70 rfl rfl ?_
      refine J.iconst 71 (nI 2) dX8_join_71 (by decide +kernel) ?_
      refine J.aload_n 72 dX8_join_72 rfl rfl ?_
      refine V.getR 73 dX8_join_73 fl_RX8_7 r_178_0 ?_
      refine J.iconst 76 (nI 1) dX8_join_76 (by decide +kernel) ?_
      refine V.iald 77 dX8_join_77 a_179 (by omega) ?_
      refine J.top (b := nI f) (by rw [hu9]; exact hf) ?_
      refine V.imul 78 dX8_join_78 ?_
      refine J.iconst 79 (nI 1) dX8_join_79 (by decide +kernel) ?_
      refine V.iadd 80 dX8_join_80 ?_
      refine V.icmp_ge 81 87 dX8_join_81 (by decide) (by omega) (by omega) (fun c81 => ?_) (fun c81 => ?_)
      · refine J.aload_n 87 dX8_join_87 rfl rfl ?_
        refine V.callvU 88 dX8_join_88 ml_RX8_166 mi_yX8_remember mv_yX8_remember (k_remember w _ (by rw [upR_ne _ _ (by decide)]; exact hk0) (by omega)) rfl rfl (Nat.le_of_ble_eq_true rfl) (by decide) (by decide) o_178 rfl rfl (fun vr hr => ?_)
        subst hr
        rw [rmF_ord]
        refine J.aload_n 91 dX8_join_91 rfl rfl ?_
        refine V.getR 92 dX8_join_92 fl_RX8_7 r_178_0 ?_
        refine J.iconst 95 (nI 3) dX8_join_95 (by decide +kernel) ?_
        refine J.iload_n 96 dX8_join_96 rfl rfl ?_
        refine V.iadd 97 dX8_join_97 ?_
        refine J.aload_n 98 dX8_join_98 rfl rfl ?_
        refine J.iconst 99 (nI 0) dX8_join_99 (by decide +kernel) ?_
        refine J.iload_n 100 dX8_join_100 rfl rfl ?_
        refine V.callvP 101 dX8_join_101 ml_RX8_111 mi_yX8_middle mv_yX8_middle (c_X8_middle w _ (by decide) (by rw [ro_zero, upR_ne _ _ (by decide)]; exact (rmF_row v hk 1 (by decide)).trans hf) (by omega) (by omega)) rfl rfl (Nat.le_of_ble_eq_true rfl) (by decide) (by decide) o_178 rfl rfl ?_
        rw [upR_self, ho _ (by omega), ho _ (by omega)]
        refine V.iast 104 dX8_join_104 a_179 (by omega) ?_
        refine V.heapv (v' := upR (upR (rmF v K) 183 o) 179 (upd ((rmF v K) 179) (3 + c) (jnM (v 179) n f c))) (by rw [← upR_upd, upR_ne _ _ (by decide)]; rfl) ?_
        refine J.aload_n 105 dX8_join_105 rfl rfl ?_
        refine V.getR 106 dX8_join_106 fl_RX8_7 r_178_0 ?_
        refine J.bipush 109 (nI 19) dX8_join_109 (by decide +kernel) ?_
        refine J.iload_n 111 dX8_join_111 rfl rfl ?_
        refine V.iadd 112 dX8_join_112 ?_
        refine J.iconst 113 (nI 0) dX8_join_113 (by decide +kernel) ?_
        refine V.iast 114 dX8_join_114 a_179 (by omega) ?_
        refine V.heapv (up2_upR _ _ _ _ _) ?_
        refine J.aload_n 115 dX8_join_115 rfl rfl ?_
        refine V.getR 116 dX8_join_116 fl_RX8_7 r_178_0 ?_
        refine J.bipush 119 (nI 35) dX8_join_119 (by decide +kernel) ?_
        refine J.iload_n 121 dX8_join_121 rfl rfl ?_
        refine V.iadd 122 dX8_join_122 ?_
        refine J.iconst 123 (nI 0) dX8_join_123 (by decide +kernel) ?_
        refine V.iast 124 dX8_join_124 a_179 (by omega) ?_
        refine V.heapv (up2_upR _ _ _ _ _) ?_
        refine J.iconst 125 (nI 0) dX8_join_125 (by decide +kernel) ?_
        refine J.istore_n 126 dX8_join_126 rfl (by decide) ?_
        exact lr c67 (by omega) o (ma + 1) 0 (by omega) (by omega)
      · refine J.ldc 84 (-1000000003) dX8_join_84 kc_RX8_178 ?_
        exact V.iret 86 dX8_join_86 (by unfold F_join; rw [if_neg (fun z => z hcl), ix_nI hc hn, if_pos (by first | exact Or.inl c67 | exact Or.inr (by omega))]; exact ⟨rfl, EqR.ord _ _⟩)
  have lp : ∀ (m : Nat) (j : Nat) (o : Nat → Int32), (j ≤ n) → (∀ k, k < cntS (v 179) j → o k = jnO (v 179) c j k) → n - j < m → J w yX8_join cX8_join 5 (some .int) (rm 2 46) XT (ZJ w 185 0 0 (PI w (fun r v' => r = (F_join v n f K ma (nI c)).1 ∧ EqR v' (F_join v n f K ma (nI c)).2))) 15 [(0, .ref (wN w + 178)), (1, .int (nI c)), (2, .int (nI (cntS (v 179) j))), (3, .int (nI j))] [] 185 (hv w (upR v 183 o)) 0 0 := by
    intro m
    induction m with
    | zero =>
      intro j o hi0 hi1 hm
      exact absurd hm (by omega)
    | succ m ih =>
      intro j o hi0 hi1 hm
      have hcs := cntS_le (v 179) j
      refine J.iload_n 15 dX8_join_15 rfl rfl ?_
      refine J.aload_n 16 dX8_join_16 rfl rfl ?_
      refine V.getR 17 dX8_join_17 fl_RX8_7 r_178_0 ?_
      refine J.iconst 20 (nI 0) dX8_join_20 (by decide +kernel) ?_
      refine V.iald 21 dX8_join_21 a_179 (by omega) ?_
      refine J.top (b := nI n) (by rw [hu9]; exact hn0) ?_
      refine V.icmp_ge 22 58 dX8_join_22 (by decide) (by omega) (by omega) (fun c22 => ?_) (fun c22 => ?_)
      · obtain rfl : j = n := by omega
        exact KE o hi1
      · refine J.aload_n 25 dX8_join_25 rfl rfl ?_
        refine V.getR 26 dX8_join_26 fl_RX8_7 r_178_0 ?_
        refine J.bipush 29 (nI 35) dX8_join_29 (by decide +kernel) ?_
        refine J.iload_n 31 dX8_join_31 rfl rfl ?_
        refine V.iadd 32 dX8_join_32 ?_
        refine V.iald 33 dX8_join_33 a_179 (by omega) ?_
        refine J.top (b := v 179 (35 + j)) (by rw [hu9]) ?_
        refine J.if_ne 34 52 dX8_join_34 (by decide) (fun c34 => ?_) (fun c34 => ?_)
        · have e1 : cntS (v 179) (j + 1) = cntS (v 179) j := by simp [cntS, c34]
          have e2 : jnO (v 179) c (j + 1) = jnO (v 179) c j := if_neg c34
          refine V.iinc 52 dX8_join_52 rfl (by decide) ?_
          refine J.goto 55 15 dX8_join_55 (by decide) ?_
          have q := fun o h => ih (j + 1) o (by omega) h (by omega)
          rw [e1] at q
          first | exact q _ (fun k hk => by rw [e2, upR_self]; exact putF_congr _ _ _ _ hi1 k hk) | exact q _ (fun k hk => by rw [e2]; exact hi1 k hk)
        · have e1 : cntS (v 179) (j + 1) = cntS (v 179) j + 1 := by simp [cntS, c34]
          have e2 : jnO (v 179) c (j + 1) = putF (jnO (v 179) c j) (cntS (v 179) j) (heF (v 179) j c) := if_pos c34
          refine J.aload_n 37 dX8_join_37 rfl rfl ?_
          refine J.iload_n 38 dX8_join_38 rfl rfl ?_
          refine J.aload_n 39 dX8_join_39 rfl rfl ?_
          refine J.iconst 40 (nI 0) dX8_join_40 (by decide +kernel) ?_
          refine J.iload_n 41 dX8_join_41 rfl rfl ?_
          refine J.iload_n 42 dX8_join_42 rfl rfl ?_
          refine V.callvP 43 dX8_join_43 ml_RX8_104 mi_yX8_heardOf mv_yX8_heardOf (c_X8_heardOf w _ (by decide) (by omega) (by omega)) rfl rfl (Nat.le_of_ble_eq_true rfl) (by decide) (by decide) o_178 rfl rfl ?_
          rw [ro_zero, hu9]
          refine V.callvU 46 dX8_join_46 ml_RX8_108 mi_yX8_put mv_yX8_put (c_X8_put w _ (by omega)) rfl rfl (Nat.le_of_ble_eq_true rfl) (by decide) (by decide) o_178 rfl rfl (fun v46 h46 => ?_)
          subst h46
          refine V.heapv (upR_upR _ _ _ _) ?_
          refine V.iinc 49 dX8_join_49 rfl (by decide) ?_
          refine V.iinc 52 dX8_join_52 rfl (by decide) ?_
          refine J.goto 55 15 dX8_join_55 (by decide) ?_
          have q := fun o h => ih (j + 1) o (by omega) h (by omega)
          rw [e1] at q
          first | exact q _ (fun k hk => by rw [e2, upR_self]; exact putF_congr _ _ _ _ hi1 k hk) | exact q _ (fun k hk => by rw [e2]; exact hi1 k hk)
  refine J.aload_n 0 dX8_join_0 rfl rfl ?_
  refine J.iload_n 1 dX8_join_1 rfl rfl ?_
  refine V.callvP 2 dX8_join_2 ml_RX8_136 mi_yX8_isClock mv_yX8_isClock (k_isClock w _ _ hn0 (by omega)) rfl rfl (Nat.le_of_ble_eq_true rfl) (by decide) (by decide) o_178 rfl rfl ?_
  refine V.if_neB 5 11 dX8_join_5 (by decide) (fun c5 => ?_) (fun c5 => absurd hcl c5)
  refine J.iconst 11 (nI 0) dX8_join_11 (by decide +kernel) ?_
  refine J.istore_n 12 dX8_join_12 rfl (by decide) ?_
  refine J.iconst 13 (nI 0) dX8_join_13 (by decide +kernel) ?_
  refine J.istore_n 14 dX8_join_14 rfl (by decide) ?_
  refine V.heapv (upR_id v 183) ?_
  exact lp (n + 1) 0 _ (by omega) (fun k hk => absurd hk (Nat.not_lt_zero k)) (by omega)
set_option maxHeartbeats 4000000 in
set_option maxRecDepth 100000 in
theorem p_joinO (w : Wd) (v : Vm2) {n f K ma : Nat} (hn0 : v 179 0 = nI n) (hn : n ≤ 8) {c : Int32} (hx : ¬ clkB n c) : CI w yX8_join cX8_join 5 (some .int) (rm 2 46) [.ref (wN w + 178), .int c] v (fun r v' => r = (F_join v n f K ma c).1 ∧ EqR v' (F_join v n f K ma c).2) := by
  refine CI.of (by decide) (Nat.le_of_ble_eq_true rfl) ?_
  refine J.aload_n 0 dX8_join_0 rfl rfl ?_
  refine J.iload_n 1 dX8_join_1 rfl rfl ?_
  refine V.callvP 2 dX8_join_2 ml_RX8_136 mi_yX8_isClock mv_yX8_isClock (k_isClock w _ _ hn0 (by omega)) rfl rfl (Nat.le_of_ble_eq_true rfl) (by decide) (by decide) o_178 rfl rfl ?_
  refine V.if_neB 5 11 dX8_join_5 (by decide) (fun c5 => absurd c5 hx) (fun c5 => ?_)
  refine J.ldc 8 (-1000000001) dX8_join_8 kc_RX8_155 ?_
  exact V.iret 10 dX8_join_10 (by unfold F_join; rw [if_pos hx]; exact ⟨rfl, EqR.rf _⟩)
theorem p_join (w : Wd) (v : Vm2) {n f K ma : Nat} (hn0 : v 179 0 = nI n) (hn : n ≤ 8) (hf : v 179 1 = nI f) (hf3 : f < 4) (hk0 : v 178 1 = nI K) (hk : K ≤ 16) (hm0 : v 179 171 = nI ma) (hma : ma ≤ 6) {c : Int32} : CI w yX8_join cX8_join 5 (some .int) (rm 2 46) [.ref (wN w + 178), .int c] v (fun r v' => r = (F_join v n f K ma c).1 ∧ EqR v' (F_join v n f K ma c).2) := by
  by_cases hx : clkB n c
  · obtain ⟨t, h1, rfl⟩ := (clkB_nI (by omega)).mp hx
    exact p_joinN w v hn0 hn hf hf3 hk0 hk hm0 hma h1
  · exact p_joinO w v hn0 hn hx
