/-! THE LAW'S CASES -/
set_option maxHeartbeats 1000000 in
theorem lcase_0 {L : Lx} {X : Cx} {b n : Nat} {xs : Nat → Int32} {tm sc bo ra r0 r1 ho di rx kn : Nat} {gr : Nat → Option Nat} {mo ms mb mt mf mc : Nat} {nm : String} (E : Ok L X code 4 R_law nm ret room_1 true) (hsc : sc_ok X b n xs) (g0 : gr 0 = some r0) (g1 : gr 1 = some r1) {i : Int} (hi : 1 ≤ i ∧ i + 5 ≤ (n : Int)) {σ : AS} {wC wR : va_W} (hσ : in_ok σ) (hC : RC L tm sc bo ra r0 r1 ho di rx kn gr σ wC) (hR : RR L mo ms mb mt mf mc σ wR)
    (kk : ∀ (σ2 : AS) (wC2 wR2 : va_W), in_ok σ2 → RC L tm sc bo ra r0 r1 ho di rx kn gr σ2 wC2 → RR L mo ms mb mt mf mc σ2 wR2 → J L X 4 16 1321 (wC2 ++ wR2) [(3, .int (z_i i)), (2, .ref mo), (1, .ref tm), (0, .ref b)] [] 559) : J L X 4 16 1321 (wC ++ wR) [(3, .int (z_i i)), (2, .ref mo), (1, .ref tm), (0, .ref b)] [] 128 := by
  refine J_aload_n E 2 d_W_law_128 rfl rfl ?_
  refine J_aload_n E 3 d_W_law_129 rfl rfl ?_
  refine J_iload_n E 0 d_W_law_130 rfl rfl ?_
  refine J_iconst E d_W_law_131 ?_
  refine J_iadd E d_W_law_132 ?_
  refine J_sld E hsc ⟨by omega, by omega⟩ d_W_law_133 ?_
  refine J_aload_n E 3 d_W_law_134 rfl rfl ?_
  refine J_iload_n E 0 d_W_law_135 rfl rfl ?_
  refine J_iconst E d_W_law_136 ?_
  refine J_iadd E d_W_law_137 ?_
  refine J_sld E hsc ⟨by omega, by omega⟩ d_W_law_138 ?_
  refine J_aload_n E 3 d_W_law_139 rfl rfl ?_
  refine J_iload_n E 0 d_W_law_140 rfl rfl ?_
  refine J_iconst E d_W_law_141 ?_
  refine J_iadd E d_W_law_142 ?_
  refine J_sld E hsc ⟨by omega, by omega⟩ d_W_law_143 ?_
  refine JT (rest := []) E kb_T_place t_1_118 t_1_119 t_1_120 (k_T_place L tm sc bo ra r0 r1 ho di rx kn gr g0 g1 hσ.1 (sv xs (i + 1)) (sv xs (i + 2)) (sv xs (i + 3)) (sv_r xs _) (sv_r xs _) (sv_r xs _)) (fun _ => rfl) (Rm_L (by decide) (by decide) (by decide) (by decide)) hC hR rfl rfl (Nat.le_of_ble_eq_true rfl) d_W_law_144 (fun wC2 hC2 => ?_)
  show J L X 4 16 1321 (wR ++ wC2) [(3, .int (z_i i)), (2, .ref mo), (1, .ref tm), (0, .ref b)] [.int (z_i (m_place σ (sv xs (i + 1)) (sv xs (i + 2)) (sv xs (i + 3))).1)] 147
  refine J_aload_n E 1 d_W_law_147 rfl rfl ?_
  refine J_aload_n E 3 d_W_law_148 rfl rfl ?_
  refine J_iload_n E 0 d_W_law_149 rfl rfl ?_
  refine J_iconst E d_W_law_150 ?_
  refine J_iadd E d_W_law_151 ?_
  refine J_sld E hsc ⟨by omega, by omega⟩ d_W_law_152 ?_
  refine J_aload_n E 3 d_W_law_153 rfl rfl ?_
  refine J_iload_n E 0 d_W_law_154 rfl rfl ?_
  refine J_iconst E d_W_law_155 ?_
  refine J_iadd E d_W_law_156 ?_
  refine J_sld E hsc ⟨by omega, by omega⟩ d_W_law_157 ?_
  refine J_aload_n E 3 d_W_law_158 rfl rfl ?_
  refine J_iload_n E 0 d_W_law_159 rfl rfl ?_
  refine J_iconst E d_W_law_160 ?_
  refine J_iadd E d_W_law_161 ?_
  refine J_sld E hsc ⟨by omega, by omega⟩ d_W_law_162 ?_
  refine JM (rest := [.int (z_i (m_place σ (sv xs (i + 1)) (sv xs (i + 2)) (sv xs (i + 3))).1)]) E kb_M_place t_2_140 t_2_141 t_2_142 (k_M_place L mo ms mb mt mf mc hσ.1 (sv xs (i + 1)) (sv xs (i + 2)) (sv xs (i + 3)) (sv_r xs _) (sv_r xs _) (sv_r xs _)) (fun _ => rfl) (Rm_L (by decide) (by decide) (by decide) (by decide)) hC2 hR rfl rfl (Nat.le_of_ble_eq_true rfl) d_W_law_163 (fun wR2 hR2 => ?_)
  show J L X 4 16 1321 (wC2 ++ wR2) [(3, .int (z_i i)), (2, .ref mo), (1, .ref tm), (0, .ref b)] [.int (z_i (m_place σ (sv xs (i + 1)) (sv xs (i + 2)) (sv xs (i + 3))).1), .int (z_i (m_place σ (sv xs (i + 1)) (sv xs (i + 2)) (sv xs (i + 3))).1)] 166
  refine J_same E 559 d_W_law_166 (by decide) ?_
  exact kk ((m_place σ (sv xs (i + 1)) (sv xs (i + 2)) (sv xs (i + 3))).2) wC2 wR2 (place_in hσ ((sv xs (i + 1))) ((sv xs (i + 2))) ((sv xs (i + 3)))) hC2 hR2
set_option maxHeartbeats 1000000 in
theorem lcase_1 {L : Lx} {X : Cx} {b n : Nat} {xs : Nat → Int32} {tm sc bo ra r0 r1 ho di rx kn : Nat} {gr : Nat → Option Nat} {mo ms mb mt mf mc : Nat} {nm : String} (E : Ok L X code 4 R_law nm ret room_1 true) (hsc : sc_ok X b n xs) (g0 : gr 0 = some r0) (g1 : gr 1 = some r1) {i : Int} (hi : 1 ≤ i ∧ i + 5 ≤ (n : Int)) {σ : AS} {wC wR : va_W} (hσ : in_ok σ) (hC : RC L tm sc bo ra r0 r1 ho di rx kn gr σ wC) (hR : RR L mo ms mb mt mf mc σ wR)
    (kk : ∀ (σ2 : AS) (wC2 wR2 : va_W), in_ok σ2 → RC L tm sc bo ra r0 r1 ho di rx kn gr σ2 wC2 → RR L mo ms mb mt mf mc σ2 wR2 → J L X 4 16 1321 (wC2 ++ wR2) [(3, .int (z_i i)), (2, .ref mo), (1, .ref tm), (0, .ref b)] [] 559) : J L X 4 16 1321 (wC ++ wR) [(3, .int (z_i i)), (2, .ref mo), (1, .ref tm), (0, .ref b)] [] 171 := by
  refine J_aload_n E 2 d_W_law_171 rfl rfl ?_
  refine J_aload_n E 3 d_W_law_172 rfl rfl ?_
  refine J_iload_n E 0 d_W_law_173 rfl rfl ?_
  refine J_iconst E d_W_law_174 ?_
  refine J_iadd E d_W_law_175 ?_
  refine J_sld E hsc ⟨by omega, by omega⟩ d_W_law_176 ?_
  refine J_aload_n E 3 d_W_law_177 rfl rfl ?_
  refine J_iload_n E 0 d_W_law_178 rfl rfl ?_
  refine J_iconst E d_W_law_179 ?_
  refine J_iadd E d_W_law_180 ?_
  refine J_sld E hsc ⟨by omega, by omega⟩ d_W_law_181 ?_
  refine JT (rest := []) E kb_T_roll t_1_129 t_1_130 t_1_131 (k_T_roll L tm sc bo ra r0 r1 ho di rx kn gr g0 g1 hσ.1 (sv xs (i + 1)) (sv xs (i + 2)) (sv_r xs _) (sv_r xs _)) (fun _ => rfl) (Rm_L (by decide) (by decide) (by decide) (by decide)) hC hR rfl rfl (Nat.le_of_ble_eq_true rfl) d_W_law_182 (fun wC2 hC2 => ?_)
  show J L X 4 16 1321 (wR ++ wC2) [(3, .int (z_i i)), (2, .ref mo), (1, .ref tm), (0, .ref b)] [.int (z_i (m_roll σ (sv xs (i + 1)) (sv xs (i + 2))).1)] 185
  refine J_aload_n E 1 d_W_law_185 rfl rfl ?_
  refine J_aload_n E 3 d_W_law_186 rfl rfl ?_
  refine J_iload_n E 0 d_W_law_187 rfl rfl ?_
  refine J_iconst E d_W_law_188 ?_
  refine J_iadd E d_W_law_189 ?_
  refine J_sld E hsc ⟨by omega, by omega⟩ d_W_law_190 ?_
  refine J_aload_n E 3 d_W_law_191 rfl rfl ?_
  refine J_iload_n E 0 d_W_law_192 rfl rfl ?_
  refine J_iconst E d_W_law_193 ?_
  refine J_iadd E d_W_law_194 ?_
  refine J_sld E hsc ⟨by omega, by omega⟩ d_W_law_195 ?_
  refine JM (rest := [.int (z_i (m_roll σ (sv xs (i + 1)) (sv xs (i + 2))).1)]) E kb_M_roll t_2_144 t_2_145 t_2_146 (k_M_roll L mo ms mb mt mf mc hσ.1 (sv xs (i + 1)) (sv xs (i + 2)) (sv_r xs _) (sv_r xs _)) (fun _ => rfl) (Rm_L (by decide) (by decide) (by decide) (by decide)) hC2 hR rfl rfl (Nat.le_of_ble_eq_true rfl) d_W_law_196 (fun wR2 hR2 => ?_)
  show J L X 4 16 1321 (wC2 ++ wR2) [(3, .int (z_i i)), (2, .ref mo), (1, .ref tm), (0, .ref b)] [.int (z_i (m_roll σ (sv xs (i + 1)) (sv xs (i + 2))).1), .int (z_i (m_roll σ (sv xs (i + 1)) (sv xs (i + 2))).1)] 199
  refine J_same E 559 d_W_law_199 (by decide) ?_
  exact kk ((m_roll σ (sv xs (i + 1)) (sv xs (i + 2))).2) wC2 wR2 (roll_in hσ ((sv xs (i + 1))) ((sv xs (i + 2)))) hC2 hR2
set_option maxHeartbeats 1000000 in
theorem lcase_2 {L : Lx} {X : Cx} {b n : Nat} {xs : Nat → Int32} {tm sc bo ra r0 r1 ho di rx kn : Nat} {gr : Nat → Option Nat} {mo ms mb mt mf mc : Nat} {nm : String} (E : Ok L X code 4 R_law nm ret room_1 true) (hsc : sc_ok X b n xs) (g0 : gr 0 = some r0) (g1 : gr 1 = some r1) {i : Int} (hi : 1 ≤ i ∧ i + 5 ≤ (n : Int)) {σ : AS} {wC wR : va_W} (hσ : in_ok σ) (hC : RC L tm sc bo ra r0 r1 ho di rx kn gr σ wC) (hR : RR L mo ms mb mt mf mc σ wR)
    (kk : ∀ (σ2 : AS) (wC2 wR2 : va_W), in_ok σ2 → RC L tm sc bo ra r0 r1 ho di rx kn gr σ2 wC2 → RR L mo ms mb mt mf mc σ2 wR2 → J L X 4 16 1321 (wC2 ++ wR2) [(3, .int (z_i i)), (2, .ref mo), (1, .ref tm), (0, .ref b)] [] 559) : J L X 4 16 1321 (wC ++ wR) [(3, .int (z_i i)), (2, .ref mo), (1, .ref tm), (0, .ref b)] [] 204 := by
  refine J_aload_n E 2 d_W_law_204 rfl rfl ?_
  refine J_aload_n E 3 d_W_law_205 rfl rfl ?_
  refine J_iload_n E 0 d_W_law_206 rfl rfl ?_
  refine J_iconst E d_W_law_207 ?_
  refine J_iadd E d_W_law_208 ?_
  refine J_sld E hsc ⟨by omega, by omega⟩ d_W_law_209 ?_
  refine J_aload_n E 3 d_W_law_210 rfl rfl ?_
  refine J_iload_n E 0 d_W_law_211 rfl rfl ?_
  refine J_iconst E d_W_law_212 ?_
  refine J_iadd E d_W_law_213 ?_
  refine J_sld E hsc ⟨by omega, by omega⟩ d_W_law_214 ?_
  refine JT (rest := []) E kb_T_move t_1_170 t_1_171 t_1_172 (k_T_move L tm sc bo ra r0 r1 ho di rx kn gr g0 g1 hσ.1 (sv xs (i + 1)) (sv xs (i + 2)) (sv_r xs _) (sv_r xs _)) (fun _ => rfl) (Rm_L (by decide) (by decide) (by decide) (by decide)) hC hR rfl rfl (Nat.le_of_ble_eq_true rfl) d_W_law_215 (fun wC2 hC2 => ?_)
  show J L X 4 16 1321 (wR ++ wC2) [(3, .int (z_i i)), (2, .ref mo), (1, .ref tm), (0, .ref b)] [.int (z_i (m_move σ (sv xs (i + 1)) (sv xs (i + 2))).1)] 218
  refine J_aload_n E 1 d_W_law_218 rfl rfl ?_
  refine J_aload_n E 3 d_W_law_219 rfl rfl ?_
  refine J_iload_n E 0 d_W_law_220 rfl rfl ?_
  refine J_iconst E d_W_law_221 ?_
  refine J_iadd E d_W_law_222 ?_
  refine J_sld E hsc ⟨by omega, by omega⟩ d_W_law_223 ?_
  refine J_aload_n E 3 d_W_law_224 rfl rfl ?_
  refine J_iload_n E 0 d_W_law_225 rfl rfl ?_
  refine J_iconst E d_W_law_226 ?_
  refine J_iadd E d_W_law_227 ?_
  refine J_sld E hsc ⟨by omega, by omega⟩ d_W_law_228 ?_
  refine JM (rest := [.int (z_i (m_move σ (sv xs (i + 1)) (sv xs (i + 2))).1)]) E kb_M_move t_2_192 t_2_193 t_2_194 (k_M_move L mo ms mb mt mf mc hσ.1 (sv xs (i + 1)) (sv xs (i + 2)) (sv_r xs _) (sv_r xs _)) (fun _ => rfl) (Rm_L (by decide) (by decide) (by decide) (by decide)) hC2 hR rfl rfl (Nat.le_of_ble_eq_true rfl) d_W_law_229 (fun wR2 hR2 => ?_)
  show J L X 4 16 1321 (wC2 ++ wR2) [(3, .int (z_i i)), (2, .ref mo), (1, .ref tm), (0, .ref b)] [.int (z_i (m_move σ (sv xs (i + 1)) (sv xs (i + 2))).1), .int (z_i (m_move σ (sv xs (i + 1)) (sv xs (i + 2))).1)] 232
  refine J_same E 559 d_W_law_232 (by decide) ?_
  exact kk ((m_move σ (sv xs (i + 1)) (sv xs (i + 2))).2) wC2 wR2 (move_in hσ ((sv xs (i + 1))) ((sv xs (i + 2)))) hC2 hR2
set_option maxHeartbeats 1000000 in
theorem lcase_3 {L : Lx} {X : Cx} {b n : Nat} {xs : Nat → Int32} {tm sc bo ra r0 r1 ho di rx kn : Nat} {gr : Nat → Option Nat} {mo ms mb mt mf mc : Nat} {nm : String} (E : Ok L X code 4 R_law nm ret room_1 true) (hsc : sc_ok X b n xs) (g0 : gr 0 = some r0) (g1 : gr 1 = some r1) {i : Int} (hi : 1 ≤ i ∧ i + 5 ≤ (n : Int)) {σ : AS} {wC wR : va_W} (hσ : in_ok σ) (hC : RC L tm sc bo ra r0 r1 ho di rx kn gr σ wC) (hR : RR L mo ms mb mt mf mc σ wR)
    (kk : ∀ (σ2 : AS) (wC2 wR2 : va_W), in_ok σ2 → RC L tm sc bo ra r0 r1 ho di rx kn gr σ2 wC2 → RR L mo ms mb mt mf mc σ2 wR2 → J L X 4 16 1321 (wC2 ++ wR2) [(3, .int (z_i i)), (2, .ref mo), (1, .ref tm), (0, .ref b)] [] 559) : J L X 4 16 1321 (wC ++ wR) [(3, .int (z_i i)), (2, .ref mo), (1, .ref tm), (0, .ref b)] [] 237 := by
  refine J_aload_n E 2 d_W_law_237 rfl rfl ?_
  refine J_aload_n E 3 d_W_law_238 rfl rfl ?_
  refine J_iload_n E 0 d_W_law_239 rfl rfl ?_
  refine J_iconst E d_W_law_240 ?_
  refine J_iadd E d_W_law_241 ?_
  refine J_sld E hsc ⟨by omega, by omega⟩ d_W_law_242 ?_
  refine JT (rest := []) E kb_T_step t_1_208 t_1_209 t_1_210 (k_T_step L tm sc bo ra r0 r1 ho di rx kn gr g0 g1 hσ.1 (sv xs (i + 1)) (sv_r xs _)) (fun _ => rfl) (Rm_L (by decide) (by decide) (by decide) (by decide)) hC hR rfl rfl (Nat.le_of_ble_eq_true rfl) d_W_law_243 (fun wC2 hC2 => ?_)
  show J L X 4 16 1321 (wR ++ wC2) [(3, .int (z_i i)), (2, .ref mo), (1, .ref tm), (0, .ref b)] [.int (z_i (m_step σ (sv xs (i + 1))).1)] 246
  refine J_aload_n E 1 d_W_law_246 rfl rfl ?_
  refine J_aload_n E 3 d_W_law_247 rfl rfl ?_
  refine J_iload_n E 0 d_W_law_248 rfl rfl ?_
  refine J_iconst E d_W_law_249 ?_
  refine J_iadd E d_W_law_250 ?_
  refine J_sld E hsc ⟨by omega, by omega⟩ d_W_law_251 ?_
  refine JM (rest := [.int (z_i (m_step σ (sv xs (i + 1))).1)]) E kb_M_step t_2_208 t_2_209 t_2_210 (k_M_step L mo ms mb mt mf mc hσ.1 (sv xs (i + 1)) (sv_r xs _)) (fun _ => rfl) (Rm_L (by decide) (by decide) (by decide) (by decide)) hC2 hR rfl rfl (Nat.le_of_ble_eq_true rfl) d_W_law_252 (fun wR2 hR2 => ?_)
  show J L X 4 16 1321 (wC2 ++ wR2) [(3, .int (z_i i)), (2, .ref mo), (1, .ref tm), (0, .ref b)] [.int (z_i (m_step σ (sv xs (i + 1))).1), .int (z_i (m_step σ (sv xs (i + 1))).1)] 255
  refine J_same E 559 d_W_law_255 (by decide) ?_
  exact kk ((m_step σ (sv xs (i + 1))).2) wC2 wR2 (step_in hσ ((sv xs (i + 1)))) hC2 hR2
set_option maxHeartbeats 1000000 in
theorem lcase_4 {L : Lx} {X : Cx} {b n : Nat} {xs : Nat → Int32} {tm sc bo ra r0 r1 ho di rx kn : Nat} {gr : Nat → Option Nat} {mo ms mb mt mf mc : Nat} {nm : String} (E : Ok L X code 4 R_law nm ret room_1 true) (hsc : sc_ok X b n xs) (g0 : gr 0 = some r0) (g1 : gr 1 = some r1) {i : Int} (hi : 1 ≤ i ∧ i + 5 ≤ (n : Int)) {σ : AS} {wC wR : va_W} (hσ : in_ok σ) (hC : RC L tm sc bo ra r0 r1 ho di rx kn gr σ wC) (hR : RR L mo ms mb mt mf mc σ wR)
    (kk : ∀ (σ2 : AS) (wC2 wR2 : va_W), in_ok σ2 → RC L tm sc bo ra r0 r1 ho di rx kn gr σ2 wC2 → RR L mo ms mb mt mf mc σ2 wR2 → J L X 4 16 1321 (wC2 ++ wR2) [(3, .int (z_i i)), (2, .ref mo), (1, .ref tm), (0, .ref b)] [] 559) : J L X 4 16 1321 (wC ++ wR) [(3, .int (z_i i)), (2, .ref mo), (1, .ref tm), (0, .ref b)] [] 260 := by
  refine J_aload_n E 2 d_W_law_260 rfl rfl ?_
  refine JT (rest := []) E kb_T_ways t_1_212 t_1_213 t_1_214 (k_T_ways L tm sc bo ra r0 r1 ho di rx kn gr g0 g1 hσ.1  ) (fun _ => rfl) (Rm_L (by decide) (by decide) (by decide) (by decide)) hC hR rfl rfl (Nat.le_of_ble_eq_true rfl) d_W_law_261 (fun wC2 hC2 => ?_)
  show J L X 4 16 1321 (wR ++ wC2) [(3, .int (z_i i)), (2, .ref mo), (1, .ref tm), (0, .ref b)] [.int (z_i (m_ways σ))] 264
  refine J_aload_n E 1 d_W_law_264 rfl rfl ?_
  refine JM (rest := [.int (z_i (m_ways σ))]) E kb_M_ways t_2_217 t_2_218 t_2_219 (k_M_ways L mo ms mb mt mf mc hσ.1  ) (fun _ => rfl) (Rm_L (by decide) (by decide) (by decide) (by decide)) hC2 hR rfl rfl (Nat.le_of_ble_eq_true rfl) d_W_law_265 (fun wR2 hR2 => ?_)
  show J L X 4 16 1321 (wC2 ++ wR2) [(3, .int (z_i i)), (2, .ref mo), (1, .ref tm), (0, .ref b)] [.int (z_i (m_ways σ)), .int (z_i (m_ways σ))] 268
  refine J_same E 559 d_W_law_268 (by decide) ?_
  exact kk (σ) wC2 wR2 hσ hC2 hR2
set_option maxHeartbeats 1000000 in
theorem lcase_5 {L : Lx} {X : Cx} {b n : Nat} {xs : Nat → Int32} {tm sc bo ra r0 r1 ho di rx kn : Nat} {gr : Nat → Option Nat} {mo ms mb mt mf mc : Nat} {nm : String} (E : Ok L X code 4 R_law nm ret room_1 true) (hsc : sc_ok X b n xs) (g0 : gr 0 = some r0) (g1 : gr 1 = some r1) {i : Int} (hi : 1 ≤ i ∧ i + 5 ≤ (n : Int)) {σ : AS} {wC wR : va_W} (hσ : in_ok σ) (hC : RC L tm sc bo ra r0 r1 ho di rx kn gr σ wC) (hR : RR L mo ms mb mt mf mc σ wR)
    (kk : ∀ (σ2 : AS) (wC2 wR2 : va_W), in_ok σ2 → RC L tm sc bo ra r0 r1 ho di rx kn gr σ2 wC2 → RR L mo ms mb mt mf mc σ2 wR2 → J L X 4 16 1321 (wC2 ++ wR2) [(3, .int (z_i i)), (2, .ref mo), (1, .ref tm), (0, .ref b)] [] 559) : J L X 4 16 1321 (wC ++ wR) [(3, .int (z_i i)), (2, .ref mo), (1, .ref tm), (0, .ref b)] [] 273 := by
  refine J_aload_n E 2 d_W_law_273 rfl rfl ?_
  refine JT (rest := []) E kb_T_due t_1_221 t_1_222 t_1_223 (k_T_due L tm sc bo ra r0 r1 ho di rx kn gr g0 g1 hσ.1  ) (fun _ => rfl) (Rm_L (by decide) (by decide) (by decide) (by decide)) hC hR rfl rfl (Nat.le_of_ble_eq_true rfl) d_W_law_274 (fun wC2 hC2 => ?_)
  show J L X 4 16 1321 (wR ++ wC2) [(3, .int (z_i i)), (2, .ref mo), (1, .ref tm), (0, .ref b)] [.int (z_i (m_dueA σ))] 277
  refine J_aload_n E 1 d_W_law_277 rfl rfl ?_
  refine JM (rest := [.int (z_i (m_dueA σ))]) E kb_M_due t_2_221 t_2_222 t_2_223 (k_M_due L mo ms mb mt mf mc hσ.1  ) (fun _ => rfl) (Rm_L (by decide) (by decide) (by decide) (by decide)) hC2 hR rfl rfl (Nat.le_of_ble_eq_true rfl) d_W_law_278 (fun wR2 hR2 => ?_)
  show J L X 4 16 1321 (wC2 ++ wR2) [(3, .int (z_i i)), (2, .ref mo), (1, .ref tm), (0, .ref b)] [.int (z_i (m_dueA σ)), .int (z_i (m_dueA σ))] 281
  refine J_same E 559 d_W_law_281 (by decide) ?_
  exact kk (σ) wC2 wR2 hσ hC2 hR2
set_option maxHeartbeats 1000000 in
theorem lcase_6 {L : Lx} {X : Cx} {b n : Nat} {xs : Nat → Int32} {tm sc bo ra r0 r1 ho di rx kn : Nat} {gr : Nat → Option Nat} {mo ms mb mt mf mc : Nat} {nm : String} (E : Ok L X code 4 R_law nm ret room_1 true) (hsc : sc_ok X b n xs) (g0 : gr 0 = some r0) (g1 : gr 1 = some r1) {i : Int} (hi : 1 ≤ i ∧ i + 5 ≤ (n : Int)) {σ : AS} {wC wR : va_W} (hσ : in_ok σ) (hC : RC L tm sc bo ra r0 r1 ho di rx kn gr σ wC) (hR : RR L mo ms mb mt mf mc σ wR)
    (kk : ∀ (σ2 : AS) (wC2 wR2 : va_W), in_ok σ2 → RC L tm sc bo ra r0 r1 ho di rx kn gr σ2 wC2 → RR L mo ms mb mt mf mc σ2 wR2 → J L X 4 16 1321 (wC2 ++ wR2) [(3, .int (z_i i)), (2, .ref mo), (1, .ref tm), (0, .ref b)] [] 559) : J L X 4 16 1321 (wC ++ wR) [(3, .int (z_i i)), (2, .ref mo), (1, .ref tm), (0, .ref b)] [] 286 := by
  refine J_aload_n E 2 d_W_law_286 rfl rfl ?_
  refine J_aload_n E 3 d_W_law_287 rfl rfl ?_
  refine J_iload_n E 0 d_W_law_288 rfl rfl ?_
  refine J_iconst E d_W_law_289 ?_
  refine J_iadd E d_W_law_290 ?_
  refine J_sld E hsc ⟨by omega, by omega⟩ d_W_law_291 ?_
  refine JT (rest := []) E kb_T_left t_1_225 t_1_226 t_1_227 (k_T_left L tm sc bo ra r0 r1 ho di rx kn gr g0 g1 hσ.1 (sv xs (i + 1)) (sv_r xs _)) (fun _ => rfl) (Rm_L (by decide) (by decide) (by decide) (by decide)) hC hR rfl rfl (Nat.le_of_ble_eq_true rfl) d_W_law_292 (fun wC2 hC2 => ?_)
  show J L X 4 16 1321 (wR ++ wC2) [(3, .int (z_i i)), (2, .ref mo), (1, .ref tm), (0, .ref b)] [.int (z_i (m_left σ (sv xs (i + 1))))] 295
  refine J_aload_n E 1 d_W_law_295 rfl rfl ?_
  refine J_aload_n E 3 d_W_law_296 rfl rfl ?_
  refine J_iload_n E 0 d_W_law_297 rfl rfl ?_
  refine J_iconst E d_W_law_298 ?_
  refine J_iadd E d_W_law_299 ?_
  refine J_sld E hsc ⟨by omega, by omega⟩ d_W_law_300 ?_
  refine JM (rest := [.int (z_i (m_left σ (sv xs (i + 1))))]) E kb_M_left t_2_225 t_2_226 t_2_227 (k_M_left L mo ms mb mt mf mc hσ.1 (sv xs (i + 1)) (sv_r xs _)) (fun _ => rfl) (Rm_L (by decide) (by decide) (by decide) (by decide)) hC2 hR rfl rfl (Nat.le_of_ble_eq_true rfl) d_W_law_301 (fun wR2 hR2 => ?_)
  show J L X 4 16 1321 (wC2 ++ wR2) [(3, .int (z_i i)), (2, .ref mo), (1, .ref tm), (0, .ref b)] [.int (z_i (m_left σ (sv xs (i + 1)))), .int (z_i (m_left σ (sv xs (i + 1))))] 304
  refine J_same E 559 d_W_law_304 (by decide) ?_
  exact kk (σ) wC2 wR2 hσ hC2 hR2
set_option maxHeartbeats 1000000 in
theorem lcase_7 {L : Lx} {X : Cx} {b n : Nat} {xs : Nat → Int32} {tm sc bo ra r0 r1 ho di rx kn : Nat} {gr : Nat → Option Nat} {mo ms mb mt mf mc : Nat} {nm : String} (E : Ok L X code 4 R_law nm ret room_1 true) (hsc : sc_ok X b n xs) (g0 : gr 0 = some r0) (g1 : gr 1 = some r1) {i : Int} (hi : 1 ≤ i ∧ i + 5 ≤ (n : Int)) {σ : AS} {wC wR : va_W} (hσ : in_ok σ) (hC : RC L tm sc bo ra r0 r1 ho di rx kn gr σ wC) (hR : RR L mo ms mb mt mf mc σ wR)
    (kk : ∀ (σ2 : AS) (wC2 wR2 : va_W), in_ok σ2 → RC L tm sc bo ra r0 r1 ho di rx kn gr σ2 wC2 → RR L mo ms mb mt mf mc σ2 wR2 → J L X 4 16 1321 (wC2 ++ wR2) [(3, .int (z_i i)), (2, .ref mo), (1, .ref tm), (0, .ref b)] [] 559) : J L X 4 16 1321 (wC ++ wR) [(3, .int (z_i i)), (2, .ref mo), (1, .ref tm), (0, .ref b)] [] 309 := by
  refine J_aload_n E 2 d_W_law_309 rfl rfl ?_
  refine JT (rest := []) E kb_T_offer t_1_229 t_1_230 t_1_231 (k_T_offer L tm sc bo ra r0 r1 ho di rx kn gr g0 g1 hσ.1  ) (fun _ => rfl) (Rm_L (by decide) (by decide) (by decide) (by decide)) hC hR rfl rfl (Nat.le_of_ble_eq_true rfl) d_W_law_310 (fun wC2 hC2 => ?_)
  show J L X 4 16 1321 (wR ++ wC2) [(3, .int (z_i i)), (2, .ref mo), (1, .ref tm), (0, .ref b)] [.int (z_i (m_offer σ).1)] 313
  refine J_aload_n E 1 d_W_law_313 rfl rfl ?_
  refine JM (rest := [.int (z_i (m_offer σ).1)]) E kb_M_offer t_2_229 t_2_230 t_2_231 (k_M_offer L mo ms mb mt mf mc hσ.1  ) (fun _ => rfl) (Rm_L (by decide) (by decide) (by decide) (by decide)) hC2 hR rfl rfl (Nat.le_of_ble_eq_true rfl) d_W_law_314 (fun wR2 hR2 => ?_)
  show J L X 4 16 1321 (wC2 ++ wR2) [(3, .int (z_i i)), (2, .ref mo), (1, .ref tm), (0, .ref b)] [.int (z_i (m_offer σ).1), .int (z_i (m_offer σ).1)] 317
  refine J_same E 559 d_W_law_317 (by decide) ?_
  exact kk ((m_offer σ).2) wC2 wR2 (offer_in hσ ) hC2 hR2
set_option maxHeartbeats 1000000 in
theorem lcase_8 {L : Lx} {X : Cx} {b n : Nat} {xs : Nat → Int32} {tm sc bo ra r0 r1 ho di rx kn : Nat} {gr : Nat → Option Nat} {mo ms mb mt mf mc : Nat} {nm : String} (E : Ok L X code 4 R_law nm ret room_1 true) (hsc : sc_ok X b n xs) (g0 : gr 0 = some r0) (g1 : gr 1 = some r1) {i : Int} (hi : 1 ≤ i ∧ i + 5 ≤ (n : Int)) {σ : AS} {wC wR : va_W} (hσ : in_ok σ) (hC : RC L tm sc bo ra r0 r1 ho di rx kn gr σ wC) (hR : RR L mo ms mb mt mf mc σ wR)
    (kk : ∀ (σ2 : AS) (wC2 wR2 : va_W), in_ok σ2 → RC L tm sc bo ra r0 r1 ho di rx kn gr σ2 wC2 → RR L mo ms mb mt mf mc σ2 wR2 → J L X 4 16 1321 (wC2 ++ wR2) [(3, .int (z_i i)), (2, .ref mo), (1, .ref tm), (0, .ref b)] [] 559) : J L X 4 16 1321 (wC ++ wR) [(3, .int (z_i i)), (2, .ref mo), (1, .ref tm), (0, .ref b)] [] 322 := by
  refine J_aload_n E 2 d_W_law_322 rfl rfl ?_
  refine J_aload_n E 3 d_W_law_323 rfl rfl ?_
  refine J_iload_n E 0 d_W_law_324 rfl rfl ?_
  refine J_iconst E d_W_law_325 ?_
  refine J_iadd E d_W_law_326 ?_
  refine J_sld E hsc ⟨by omega, by omega⟩ d_W_law_327 ?_
  refine J_if_eq E 335 d_W_law_328 (by decide) (sv_r xs _) (fun h328 => ?_) (fun h328 => ?_)
  · refine J_iconst E d_W_law_335 ?_
    refine JT (rest := []) E kb_T_answer t_1_233 t_1_234 t_1_235 (k_T_answer L tm sc bo ra r0 r1 ho di rx kn gr g0 g1 hσ.1 0 ⟨by decide, by decide⟩) (fun _ => rfl) (Rm_L (by decide) (by decide) (by decide) (by decide)) hC hR rfl rfl (Nat.le_of_ble_eq_true rfl) d_W_law_336 (fun wC2 hC2 => ?_)
    show J L X 4 16 1321 (wR ++ wC2) [(3, .int (z_i i)), (2, .ref mo), (1, .ref tm), (0, .ref b)] [.int (z_i (m_answer σ 0).1)] 339
    refine J_aload_n E 1 d_W_law_339 rfl rfl ?_
    refine J_aload_n E 3 d_W_law_340 rfl rfl ?_
    refine J_iload_n E 0 d_W_law_341 rfl rfl ?_
    refine J_iconst E d_W_law_342 ?_
    refine J_iadd E d_W_law_343 ?_
    refine J_sld E hsc ⟨by omega, by omega⟩ d_W_law_344 ?_
    refine J_if_eq E 352 d_W_law_345 (by decide) (sv_r xs _) (fun h345 => ?_) (fun h345 => ?_)
    · refine J_iconst E d_W_law_352 ?_
      refine JM (rest := [.int (z_i (m_answer σ 0).1)]) E kb_M_answer t_2_233 t_2_234 t_2_235 (k_M_answer L mo ms mb mt mf mc hσ.1 0 ⟨by decide, by decide⟩) (fun _ => rfl) (Rm_L (by decide) (by decide) (by decide) (by decide)) hC2 hR rfl rfl (Nat.le_of_ble_eq_true rfl) d_W_law_353 (fun wR2 hR2 => ?_)
      show J L X 4 16 1321 (wC2 ++ wR2) [(3, .int (z_i i)), (2, .ref mo), (1, .ref tm), (0, .ref b)] [.int (z_i (m_answer σ 0).1), .int (z_i (m_answer σ 0).1)] 356
      refine J_same E 559 d_W_law_356 (by decide) ?_
      exact kk ((m_answer σ 0).2) wC2 wR2 (answer_in hσ 0) hC2 hR2
    · exact absurd h328 h345
  · refine J_iconst E d_W_law_331 ?_
    refine J_goto E 336 d_W_law_332 (by decide) ?_
    refine JT (rest := []) E kb_T_answer t_1_233 t_1_234 t_1_235 (k_T_answer L tm sc bo ra r0 r1 ho di rx kn gr g0 g1 hσ.1 1 ⟨by decide, by decide⟩) (fun _ => rfl) (Rm_L (by decide) (by decide) (by decide) (by decide)) hC hR rfl rfl (Nat.le_of_ble_eq_true rfl) d_W_law_336 (fun wC2 hC2 => ?_)
    show J L X 4 16 1321 (wR ++ wC2) [(3, .int (z_i i)), (2, .ref mo), (1, .ref tm), (0, .ref b)] [.int (z_i (m_answer σ 1).1)] 339
    refine J_aload_n E 1 d_W_law_339 rfl rfl ?_
    refine J_aload_n E 3 d_W_law_340 rfl rfl ?_
    refine J_iload_n E 0 d_W_law_341 rfl rfl ?_
    refine J_iconst E d_W_law_342 ?_
    refine J_iadd E d_W_law_343 ?_
    refine J_sld E hsc ⟨by omega, by omega⟩ d_W_law_344 ?_
    refine J_if_eq E 352 d_W_law_345 (by decide) (sv_r xs _) (fun h345 => ?_) (fun h345 => ?_)
    · exact absurd h345 h328
    · refine J_iconst E d_W_law_348 ?_
      refine J_goto E 353 d_W_law_349 (by decide) ?_
      refine JM (rest := [.int (z_i (m_answer σ 1).1)]) E kb_M_answer t_2_233 t_2_234 t_2_235 (k_M_answer L mo ms mb mt mf mc hσ.1 1 ⟨by decide, by decide⟩) (fun _ => rfl) (Rm_L (by decide) (by decide) (by decide) (by decide)) hC2 hR rfl rfl (Nat.le_of_ble_eq_true rfl) d_W_law_353 (fun wR2 hR2 => ?_)
      show J L X 4 16 1321 (wC2 ++ wR2) [(3, .int (z_i i)), (2, .ref mo), (1, .ref tm), (0, .ref b)] [.int (z_i (m_answer σ 1).1), .int (z_i (m_answer σ 1).1)] 356
      refine J_same E 559 d_W_law_356 (by decide) ?_
      exact kk ((m_answer σ 1).2) wC2 wR2 (answer_in hσ 1) hC2 hR2
set_option maxHeartbeats 1000000 in
theorem lcase_9 {L : Lx} {X : Cx} {b n : Nat} {xs : Nat → Int32} {tm sc bo ra r0 r1 ho di rx kn : Nat} {gr : Nat → Option Nat} {mo ms mb mt mf mc : Nat} {nm : String} (E : Ok L X code 4 R_law nm ret room_1 true) (hsc : sc_ok X b n xs) (g0 : gr 0 = some r0) (g1 : gr 1 = some r1) {i : Int} (hi : 1 ≤ i ∧ i + 5 ≤ (n : Int)) {σ : AS} {wC wR : va_W} (hσ : in_ok σ) (hC : RC L tm sc bo ra r0 r1 ho di rx kn gr σ wC) (hR : RR L mo ms mb mt mf mc σ wR)
    (kk : ∀ (σ2 : AS) (wC2 wR2 : va_W), in_ok σ2 → RC L tm sc bo ra r0 r1 ho di rx kn gr σ2 wC2 → RR L mo ms mb mt mf mc σ2 wR2 → J L X 4 16 1321 (wC2 ++ wR2) [(3, .int (z_i i)), (2, .ref mo), (1, .ref tm), (0, .ref b)] [] 559) : J L X 4 16 1321 (wC ++ wR) [(3, .int (z_i i)), (2, .ref mo), (1, .ref tm), (0, .ref b)] [] 361 := by
  refine J_aload_n E 2 d_W_law_361 rfl rfl ?_
  refine JT (rest := []) E kb_T_phase t_1_237 t_1_238 t_1_239 (k_T_phase L tm sc bo ra r0 r1 ho di rx kn gr g0 g1 hσ.1  ) (fun _ => rfl) (Rm_L (by decide) (by decide) (by decide) (by decide)) hC hR rfl rfl (Nat.le_of_ble_eq_true rfl) d_W_law_362 (fun wC2 hC2 => ?_)
  show J L X 4 16 1321 (wR ++ wC2) [(3, .int (z_i i)), (2, .ref mo), (1, .ref tm), (0, .ref b)] [.int (z_i (σ.2.1))] 365
  refine J_aload_n E 1 d_W_law_365 rfl rfl ?_
  refine JM (rest := [.int (z_i (σ.2.1))]) E kb_M_phase t_2_237 t_2_238 t_2_239 (k_M_phase L mo ms mb mt mf mc hσ.1  ) (fun _ => rfl) (Rm_L (by decide) (by decide) (by decide) (by decide)) hC2 hR rfl rfl (Nat.le_of_ble_eq_true rfl) d_W_law_366 (fun wR2 hR2 => ?_)
  show J L X 4 16 1321 (wC2 ++ wR2) [(3, .int (z_i i)), (2, .ref mo), (1, .ref tm), (0, .ref b)] [.int (z_i (σ.2.1)), .int (z_i (σ.2.1))] 369
  refine J_same E 559 d_W_law_369 (by decide) ?_
  exact kk (σ) wC2 wR2 hσ hC2 hR2
set_option maxHeartbeats 1000000 in
theorem lcase_10 {L : Lx} {X : Cx} {b n : Nat} {xs : Nat → Int32} {tm sc bo ra r0 r1 ho di rx kn : Nat} {gr : Nat → Option Nat} {mo ms mb mt mf mc : Nat} {nm : String} (E : Ok L X code 4 R_law nm ret room_1 true) (hsc : sc_ok X b n xs) (g0 : gr 0 = some r0) (g1 : gr 1 = some r1) {i : Int} (hi : 1 ≤ i ∧ i + 5 ≤ (n : Int)) {σ : AS} {wC wR : va_W} (hσ : in_ok σ) (hC : RC L tm sc bo ra r0 r1 ho di rx kn gr σ wC) (hR : RR L mo ms mb mt mf mc σ wR)
    (kk : ∀ (σ2 : AS) (wC2 wR2 : va_W), in_ok σ2 → RC L tm sc bo ra r0 r1 ho di rx kn gr σ2 wC2 → RR L mo ms mb mt mf mc σ2 wR2 → J L X 4 16 1321 (wC2 ++ wR2) [(3, .int (z_i i)), (2, .ref mo), (1, .ref tm), (0, .ref b)] [] 559) : J L X 4 16 1321 (wC ++ wR) [(3, .int (z_i i)), (2, .ref mo), (1, .ref tm), (0, .ref b)] [] 374 := by
  refine J_aload_n E 2 d_W_law_374 rfl rfl ?_
  refine JT (rest := []) E kb_T_turn t_2_1 t_2_2 t_2_3 (k_T_turn L tm sc bo ra r0 r1 ho di rx kn gr g0 g1 hσ.1  ) (fun _ => rfl) (Rm_L (by decide) (by decide) (by decide) (by decide)) hC hR rfl rfl (Nat.le_of_ble_eq_true rfl) d_W_law_375 (fun wC2 hC2 => ?_)
  show J L X 4 16 1321 (wR ++ wC2) [(3, .int (z_i i)), (2, .ref mo), (1, .ref tm), (0, .ref b)] [.int (z_i (m_turn σ))] 378
  refine J_aload_n E 1 d_W_law_378 rfl rfl ?_
  refine JM (rest := [.int (z_i (m_turn σ))]) E kb_M_turn t_3_1 t_3_2 t_3_3 (k_M_turn L mo ms mb mt mf mc hσ.1  ) (fun _ => rfl) (Rm_L (by decide) (by decide) (by decide) (by decide)) hC2 hR rfl rfl (Nat.le_of_ble_eq_true rfl) d_W_law_379 (fun wR2 hR2 => ?_)
  show J L X 4 16 1321 (wC2 ++ wR2) [(3, .int (z_i i)), (2, .ref mo), (1, .ref tm), (0, .ref b)] [.int (z_i (m_turn σ)), .int (z_i (m_turn σ))] 382
  refine J_same E 559 d_W_law_382 (by decide) ?_
  exact kk (σ) wC2 wR2 hσ hC2 hR2
set_option maxHeartbeats 1000000 in
theorem lcase_11 {L : Lx} {X : Cx} {b n : Nat} {xs : Nat → Int32} {tm sc bo ra r0 r1 ho di rx kn : Nat} {gr : Nat → Option Nat} {mo ms mb mt mf mc : Nat} {nm : String} (E : Ok L X code 4 R_law nm ret room_1 true) (hsc : sc_ok X b n xs) (g0 : gr 0 = some r0) (g1 : gr 1 = some r1) {i : Int} (hi : 1 ≤ i ∧ i + 5 ≤ (n : Int)) {σ : AS} {wC wR : va_W} (hσ : in_ok σ) (hC : RC L tm sc bo ra r0 r1 ho di rx kn gr σ wC) (hR : RR L mo ms mb mt mf mc σ wR)
    (kk : ∀ (σ2 : AS) (wC2 wR2 : va_W), in_ok σ2 → RC L tm sc bo ra r0 r1 ho di rx kn gr σ2 wC2 → RR L mo ms mb mt mf mc σ2 wR2 → J L X 4 16 1321 (wC2 ++ wR2) [(3, .int (z_i i)), (2, .ref mo), (1, .ref tm), (0, .ref b)] [] 559) : J L X 4 16 1321 (wC ++ wR) [(3, .int (z_i i)), (2, .ref mo), (1, .ref tm), (0, .ref b)] [] 387 := by
  refine J_aload_n E 2 d_W_law_387 rfl rfl ?_
  refine J_aload_n E 3 d_W_law_388 rfl rfl ?_
  refine J_iload_n E 0 d_W_law_389 rfl rfl ?_
  refine J_iconst E d_W_law_390 ?_
  refine J_iadd E d_W_law_391 ?_
  refine J_sld E hsc ⟨by omega, by omega⟩ d_W_law_392 ?_
  refine J_aload_n E 3 d_W_law_393 rfl rfl ?_
  refine J_iload_n E 0 d_W_law_394 rfl rfl ?_
  refine J_iconst E d_W_law_395 ?_
  refine J_iadd E d_W_law_396 ?_
  refine J_sld E hsc ⟨by omega, by omega⟩ d_W_law_397 ?_
  refine JT (rest := []) E kb_T_men t_2_5 t_2_6 t_2_7 (k_T_men L tm sc bo ra r0 r1 ho di rx kn gr g0 g1 hσ.1 (sv xs (i + 1)) (sv xs (i + 2)) (sv_r xs _) (sv_r xs _)) (fun _ => rfl) (Rm_L (by decide) (by decide) (by decide) (by decide)) hC hR rfl rfl (Nat.le_of_ble_eq_true rfl) d_W_law_398 (fun wC2 hC2 => ?_)
  show J L X 4 16 1321 (wR ++ wC2) [(3, .int (z_i i)), (2, .ref mo), (1, .ref tm), (0, .ref b)] [.int (z_i (m_men σ (sv xs (i + 1)) (sv xs (i + 2))))] 401
  refine J_aload_n E 1 d_W_law_401 rfl rfl ?_
  refine J_aload_n E 3 d_W_law_402 rfl rfl ?_
  refine J_iload_n E 0 d_W_law_403 rfl rfl ?_
  refine J_iconst E d_W_law_404 ?_
  refine J_iadd E d_W_law_405 ?_
  refine J_sld E hsc ⟨by omega, by omega⟩ d_W_law_406 ?_
  refine J_aload_n E 3 d_W_law_407 rfl rfl ?_
  refine J_iload_n E 0 d_W_law_408 rfl rfl ?_
  refine J_iconst E d_W_law_409 ?_
  refine J_iadd E d_W_law_410 ?_
  refine J_sld E hsc ⟨by omega, by omega⟩ d_W_law_411 ?_
  refine JM (rest := [.int (z_i (m_men σ (sv xs (i + 1)) (sv xs (i + 2))))]) E kb_M_men t_3_5 t_3_6 t_3_7 (k_M_men L mo ms mb mt mf mc hσ.1 (sv xs (i + 1)) (sv xs (i + 2)) (sv_r xs _) (sv_r xs _)) (fun _ => rfl) (Rm_L (by decide) (by decide) (by decide) (by decide)) hC2 hR rfl rfl (Nat.le_of_ble_eq_true rfl) d_W_law_412 (fun wR2 hR2 => ?_)
  show J L X 4 16 1321 (wC2 ++ wR2) [(3, .int (z_i i)), (2, .ref mo), (1, .ref tm), (0, .ref b)] [.int (z_i (m_men σ (sv xs (i + 1)) (sv xs (i + 2)))), .int (z_i (m_men σ (sv xs (i + 1)) (sv xs (i + 2))))] 415
  refine J_same E 559 d_W_law_415 (by decide) ?_
  exact kk (σ) wC2 wR2 hσ hC2 hR2
set_option maxHeartbeats 1000000 in
theorem lcase_12 {L : Lx} {X : Cx} {b n : Nat} {xs : Nat → Int32} {tm sc bo ra r0 r1 ho di rx kn : Nat} {gr : Nat → Option Nat} {mo ms mb mt mf mc : Nat} {nm : String} (E : Ok L X code 4 R_law nm ret room_1 true) (hsc : sc_ok X b n xs) (g0 : gr 0 = some r0) (g1 : gr 1 = some r1) {i : Int} (hi : 1 ≤ i ∧ i + 5 ≤ (n : Int)) {σ : AS} {wC wR : va_W} (hσ : in_ok σ) (hC : RC L tm sc bo ra r0 r1 ho di rx kn gr σ wC) (hR : RR L mo ms mb mt mf mc σ wR)
    (kk : ∀ (σ2 : AS) (wC2 wR2 : va_W), in_ok σ2 → RC L tm sc bo ra r0 r1 ho di rx kn gr σ2 wC2 → RR L mo ms mb mt mf mc σ2 wR2 → J L X 4 16 1321 (wC2 ++ wR2) [(3, .int (z_i i)), (2, .ref mo), (1, .ref tm), (0, .ref b)] [] 559) : J L X 4 16 1321 (wC ++ wR) [(3, .int (z_i i)), (2, .ref mo), (1, .ref tm), (0, .ref b)] [] 420 := by
  refine J_aload_n E 2 d_W_law_420 rfl rfl ?_
  refine J_aload_n E 3 d_W_law_421 rfl rfl ?_
  refine J_iload_n E 0 d_W_law_422 rfl rfl ?_
  refine J_iconst E d_W_law_423 ?_
  refine J_iadd E d_W_law_424 ?_
  refine J_sld E hsc ⟨by omega, by omega⟩ d_W_law_425 ?_
  refine JT (rest := []) E kb_T_pips t_2_9 t_2_10 t_2_11 (k_T_pips L tm sc bo ra r0 r1 ho di rx kn gr g0 g1 hσ.1 (sv xs (i + 1)) (sv_r xs _)) (fun _ => rfl) (Rm_L (by decide) (by decide) (by decide) (by decide)) hC hR rfl rfl (Nat.le_of_ble_eq_true rfl) d_W_law_426 (fun wC2 hC2 => ?_)
  show J L X 4 16 1321 (wR ++ wC2) [(3, .int (z_i i)), (2, .ref mo), (1, .ref tm), (0, .ref b)] [.int (z_i (m_pips σ (sv xs (i + 1))))] 429
  refine J_aload_n E 1 d_W_law_429 rfl rfl ?_
  refine J_aload_n E 3 d_W_law_430 rfl rfl ?_
  refine J_iload_n E 0 d_W_law_431 rfl rfl ?_
  refine J_iconst E d_W_law_432 ?_
  refine J_iadd E d_W_law_433 ?_
  refine J_sld E hsc ⟨by omega, by omega⟩ d_W_law_434 ?_
  refine JM (rest := [.int (z_i (m_pips σ (sv xs (i + 1))))]) E kb_M_pips t_3_9 t_3_10 t_3_11 (k_M_pips L mo ms mb mt mf mc hσ.1 (sv xs (i + 1)) (sv_r xs _)) (fun _ => rfl) (Rm_L (by decide) (by decide) (by decide) (by decide)) hC2 hR rfl rfl (Nat.le_of_ble_eq_true rfl) d_W_law_435 (fun wR2 hR2 => ?_)
  show J L X 4 16 1321 (wC2 ++ wR2) [(3, .int (z_i i)), (2, .ref mo), (1, .ref tm), (0, .ref b)] [.int (z_i (m_pips σ (sv xs (i + 1)))), .int (z_i (m_pips σ (sv xs (i + 1))))] 438
  refine J_same E 559 d_W_law_438 (by decide) ?_
  exact kk (σ) wC2 wR2 hσ hC2 hR2
set_option maxHeartbeats 1000000 in
theorem lcase_13 {L : Lx} {X : Cx} {b n : Nat} {xs : Nat → Int32} {tm sc bo ra r0 r1 ho di rx kn : Nat} {gr : Nat → Option Nat} {mo ms mb mt mf mc : Nat} {nm : String} (E : Ok L X code 4 R_law nm ret room_1 true) (hsc : sc_ok X b n xs) (g0 : gr 0 = some r0) (g1 : gr 1 = some r1) {i : Int} (hi : 1 ≤ i ∧ i + 5 ≤ (n : Int)) {σ : AS} {wC wR : va_W} (hσ : in_ok σ) (hC : RC L tm sc bo ra r0 r1 ho di rx kn gr σ wC) (hR : RR L mo ms mb mt mf mc σ wR)
    (kk : ∀ (σ2 : AS) (wC2 wR2 : va_W), in_ok σ2 → RC L tm sc bo ra r0 r1 ho di rx kn gr σ2 wC2 → RR L mo ms mb mt mf mc σ2 wR2 → J L X 4 16 1321 (wC2 ++ wR2) [(3, .int (z_i i)), (2, .ref mo), (1, .ref tm), (0, .ref b)] [] 559) : J L X 4 16 1321 (wC ++ wR) [(3, .int (z_i i)), (2, .ref mo), (1, .ref tm), (0, .ref b)] [] 443 := by
  refine J_aload_n E 2 d_W_law_443 rfl rfl ?_
  refine JT (rest := []) E kb_T_cube t_2_17 t_2_18 t_2_19 (k_T_cube L tm sc bo ra r0 r1 ho di rx kn gr g0 g1 hσ.1  ) (fun _ => rfl) (Rm_L (by decide) (by decide) (by decide) (by decide)) hC hR rfl rfl (Nat.le_of_ble_eq_true rfl) d_W_law_444 (fun wC2 hC2 => ?_)
  show J L X 4 16 1321 (wR ++ wC2) [(3, .int (z_i i)), (2, .ref mo), (1, .ref tm), (0, .ref b)] [.int (z_i (σ.2.2.2.1))] 447
  refine J_aload_n E 1 d_W_law_447 rfl rfl ?_
  refine JM (rest := [.int (z_i (σ.2.2.2.1))]) E kb_M_cube t_3_13 t_3_14 t_3_15 (k_M_cube L mo ms mb mt mf mc hσ.1  ) (fun _ => rfl) (Rm_L (by decide) (by decide) (by decide) (by decide)) hC2 hR rfl rfl (Nat.le_of_ble_eq_true rfl) d_W_law_448 (fun wR2 hR2 => ?_)
  show J L X 4 16 1321 (wC2 ++ wR2) [(3, .int (z_i i)), (2, .ref mo), (1, .ref tm), (0, .ref b)] [.int (z_i (σ.2.2.2.1)), .int (z_i (σ.2.2.2.1))] 451
  refine J_same E 559 d_W_law_451 (by decide) ?_
  exact kk (σ) wC2 wR2 hσ hC2 hR2
set_option maxHeartbeats 1000000 in
theorem lcase_14 {L : Lx} {X : Cx} {b n : Nat} {xs : Nat → Int32} {tm sc bo ra r0 r1 ho di rx kn : Nat} {gr : Nat → Option Nat} {mo ms mb mt mf mc : Nat} {nm : String} (E : Ok L X code 4 R_law nm ret room_1 true) (hsc : sc_ok X b n xs) (g0 : gr 0 = some r0) (g1 : gr 1 = some r1) {i : Int} (hi : 1 ≤ i ∧ i + 5 ≤ (n : Int)) {σ : AS} {wC wR : va_W} (hσ : in_ok σ) (hC : RC L tm sc bo ra r0 r1 ho di rx kn gr σ wC) (hR : RR L mo ms mb mt mf mc σ wR)
    (kk : ∀ (σ2 : AS) (wC2 wR2 : va_W), in_ok σ2 → RC L tm sc bo ra r0 r1 ho di rx kn gr σ2 wC2 → RR L mo ms mb mt mf mc σ2 wR2 → J L X 4 16 1321 (wC2 ++ wR2) [(3, .int (z_i i)), (2, .ref mo), (1, .ref tm), (0, .ref b)] [] 559) : J L X 4 16 1321 (wC ++ wR) [(3, .int (z_i i)), (2, .ref mo), (1, .ref tm), (0, .ref b)] [] 456 := by
  refine J_aload_n E 2 d_W_law_456 rfl rfl ?_
  refine JT (rest := []) E kb_T_owner t_2_21 t_2_22 t_2_23 (k_T_owner L tm sc bo ra r0 r1 ho di rx kn gr g0 g1 hσ.1  ) (fun _ => rfl) (Rm_L (by decide) (by decide) (by decide) (by decide)) hC hR rfl rfl (Nat.le_of_ble_eq_true rfl) d_W_law_457 (fun wC2 hC2 => ?_)
  show J L X 4 16 1321 (wR ++ wC2) [(3, .int (z_i i)), (2, .ref mo), (1, .ref tm), (0, .ref b)] [.int (z_i (σ.2.2.2.2.1))] 460
  refine J_aload_n E 1 d_W_law_460 rfl rfl ?_
  refine JM (rest := [.int (z_i (σ.2.2.2.2.1))]) E kb_M_owner t_3_17 t_3_18 t_3_19 (k_M_owner L mo ms mb mt mf mc hσ.1  ) (fun _ => rfl) (Rm_L (by decide) (by decide) (by decide) (by decide)) hC2 hR rfl rfl (Nat.le_of_ble_eq_true rfl) d_W_law_461 (fun wR2 hR2 => ?_)
  show J L X 4 16 1321 (wC2 ++ wR2) [(3, .int (z_i i)), (2, .ref mo), (1, .ref tm), (0, .ref b)] [.int (z_i (σ.2.2.2.2.1)), .int (z_i (σ.2.2.2.2.1))] 464
  refine J_same E 559 d_W_law_464 (by decide) ?_
  exact kk (σ) wC2 wR2 hσ hC2 hR2
set_option maxHeartbeats 1000000 in
theorem lcase_15 {L : Lx} {X : Cx} {b n : Nat} {xs : Nat → Int32} {tm sc bo ra r0 r1 ho di rx kn : Nat} {gr : Nat → Option Nat} {mo ms mb mt mf mc : Nat} {nm : String} (E : Ok L X code 4 R_law nm ret room_1 true) (hsc : sc_ok X b n xs) (g0 : gr 0 = some r0) (g1 : gr 1 = some r1) {i : Int} (hi : 1 ≤ i ∧ i + 5 ≤ (n : Int)) {σ : AS} {wC wR : va_W} (hσ : in_ok σ) (hC : RC L tm sc bo ra r0 r1 ho di rx kn gr σ wC) (hR : RR L mo ms mb mt mf mc σ wR)
    (kk : ∀ (σ2 : AS) (wC2 wR2 : va_W), in_ok σ2 → RC L tm sc bo ra r0 r1 ho di rx kn gr σ2 wC2 → RR L mo ms mb mt mf mc σ2 wR2 → J L X 4 16 1321 (wC2 ++ wR2) [(3, .int (z_i i)), (2, .ref mo), (1, .ref tm), (0, .ref b)] [] 559) : J L X 4 16 1321 (wC ++ wR) [(3, .int (z_i i)), (2, .ref mo), (1, .ref tm), (0, .ref b)] [] 469 := by
  refine J_aload_n E 2 d_W_law_469 rfl rfl ?_
  refine J_aload_n E 3 d_W_law_470 rfl rfl ?_
  refine J_iload_n E 0 d_W_law_471 rfl rfl ?_
  refine J_iconst E d_W_law_472 ?_
  refine J_iadd E d_W_law_473 ?_
  refine J_sld E hsc ⟨by omega, by omega⟩ d_W_law_474 ?_
  refine JT (rest := []) E kb_T_points t_2_25 t_2_26 t_2_27 (k_T_points L tm sc bo ra r0 r1 ho di rx kn gr g0 g1 hσ.1 (sv xs (i + 1)) (sv_r xs _)) (fun _ => rfl) (Rm_L (by decide) (by decide) (by decide) (by decide)) hC hR rfl rfl (Nat.le_of_ble_eq_true rfl) d_W_law_475 (fun wC2 hC2 => ?_)
  show J L X 4 16 1321 (wR ++ wC2) [(3, .int (z_i i)), (2, .ref mo), (1, .ref tm), (0, .ref b)] [.int (z_i (m_points σ (sv xs (i + 1))))] 478
  refine J_aload_n E 1 d_W_law_478 rfl rfl ?_
  refine J_aload_n E 3 d_W_law_479 rfl rfl ?_
  refine J_iload_n E 0 d_W_law_480 rfl rfl ?_
  refine J_iconst E d_W_law_481 ?_
  refine J_iadd E d_W_law_482 ?_
  refine J_sld E hsc ⟨by omega, by omega⟩ d_W_law_483 ?_
  refine JM (rest := [.int (z_i (m_points σ (sv xs (i + 1))))]) E kb_M_points t_3_21 t_3_22 t_3_23 (k_M_points L mo ms mb mt mf mc hσ.1 (sv xs (i + 1)) (sv_r xs _)) (fun _ => rfl) (Rm_L (by decide) (by decide) (by decide) (by decide)) hC2 hR rfl rfl (Nat.le_of_ble_eq_true rfl) d_W_law_484 (fun wR2 hR2 => ?_)
  show J L X 4 16 1321 (wC2 ++ wR2) [(3, .int (z_i i)), (2, .ref mo), (1, .ref tm), (0, .ref b)] [.int (z_i (m_points σ (sv xs (i + 1)))), .int (z_i (m_points σ (sv xs (i + 1))))] 487
  refine J_same E 559 d_W_law_487 (by decide) ?_
  exact kk (σ) wC2 wR2 hσ hC2 hR2
set_option maxHeartbeats 1000000 in
theorem lcase_16 {L : Lx} {X : Cx} {b n : Nat} {xs : Nat → Int32} {tm sc bo ra r0 r1 ho di rx kn : Nat} {gr : Nat → Option Nat} {mo ms mb mt mf mc : Nat} {nm : String} (E : Ok L X code 4 R_law nm ret room_1 true) (hsc : sc_ok X b n xs) (g0 : gr 0 = some r0) (g1 : gr 1 = some r1) {i : Int} (hi : 1 ≤ i ∧ i + 5 ≤ (n : Int)) {σ : AS} {wC wR : va_W} (hσ : in_ok σ) (hC : RC L tm sc bo ra r0 r1 ho di rx kn gr σ wC) (hR : RR L mo ms mb mt mf mc σ wR)
    (kk : ∀ (σ2 : AS) (wC2 wR2 : va_W), in_ok σ2 → RC L tm sc bo ra r0 r1 ho di rx kn gr σ2 wC2 → RR L mo ms mb mt mf mc σ2 wR2 → J L X 4 16 1321 (wC2 ++ wR2) [(3, .int (z_i i)), (2, .ref mo), (1, .ref tm), (0, .ref b)] [] 559) : J L X 4 16 1321 (wC ++ wR) [(3, .int (z_i i)), (2, .ref mo), (1, .ref tm), (0, .ref b)] [] 492 := by
  refine J_aload_n E 2 d_W_law_492 rfl rfl ?_
  refine JT (rest := []) E kb_T_crawford t_2_29 t_2_30 t_2_31 (k_T_crawford L tm sc bo ra r0 r1 ho di rx kn gr g0 g1 hσ.1  ) (fun _ => rfl) (Rm_L (by decide) (by decide) (by decide) (by decide)) hC hR rfl rfl (Nat.le_of_ble_eq_true rfl) d_W_law_493 (fun wC2 hC2 => ?_)
  show J L X 4 16 1321 (wR ++ wC2) [(3, .int (z_i i)), (2, .ref mo), (1, .ref tm), (0, .ref b)] [.int (z_i (σ.2.2.2.2.2.1))] 496
  refine J_aload_n E 1 d_W_law_496 rfl rfl ?_
  refine JM (rest := [.int (z_i (σ.2.2.2.2.2.1))]) E kb_M_crawford t_3_25 t_3_26 t_3_27 (k_M_crawford L mo ms mb mt mf mc hσ.1  ) (fun _ => rfl) (Rm_L (by decide) (by decide) (by decide) (by decide)) hC2 hR rfl rfl (Nat.le_of_ble_eq_true rfl) d_W_law_497 (fun wR2 hR2 => ?_)
  show J L X 4 16 1321 (wC2 ++ wR2) [(3, .int (z_i i)), (2, .ref mo), (1, .ref tm), (0, .ref b)] [.int (z_i (σ.2.2.2.2.2.1)), .int (z_i (σ.2.2.2.2.2.1))] 500
  refine J_same E 559 d_W_law_500 (by decide) ?_
  exact kk (σ) wC2 wR2 hσ hC2 hR2
set_option maxHeartbeats 1000000 in
theorem lcase_17 {L : Lx} {X : Cx} {b n : Nat} {xs : Nat → Int32} {tm sc bo ra r0 r1 ho di rx kn : Nat} {gr : Nat → Option Nat} {mo ms mb mt mf mc : Nat} {nm : String} (E : Ok L X code 4 R_law nm ret room_1 true) (hsc : sc_ok X b n xs) (g0 : gr 0 = some r0) (g1 : gr 1 = some r1) {i : Int} (hi : 1 ≤ i ∧ i + 5 ≤ (n : Int)) {σ : AS} {wC wR : va_W} (hσ : in_ok σ) (hC : RC L tm sc bo ra r0 r1 ho di rx kn gr σ wC) (hR : RR L mo ms mb mt mf mc σ wR)
    (kk : ∀ (σ2 : AS) (wC2 wR2 : va_W), in_ok σ2 → RC L tm sc bo ra r0 r1 ho di rx kn gr σ2 wC2 → RR L mo ms mb mt mf mc σ2 wR2 → J L X 4 16 1321 (wC2 ++ wR2) [(3, .int (z_i i)), (2, .ref mo), (1, .ref tm), (0, .ref b)] [] 559) : J L X 4 16 1321 (wC ++ wR) [(3, .int (z_i i)), (2, .ref mo), (1, .ref tm), (0, .ref b)] [] 505 := by
  refine J_aload_n E 2 d_W_law_505 rfl rfl ?_
  refine J_aload_n E 3 d_W_law_506 rfl rfl ?_
  refine J_iload_n E 0 d_W_law_507 rfl rfl ?_
  refine J_iconst E d_W_law_508 ?_
  refine J_iadd E d_W_law_509 ?_
  refine J_sld E hsc ⟨by omega, by omega⟩ d_W_law_510 ?_
  refine J_aload_n E 3 d_W_law_511 rfl rfl ?_
  refine J_iload_n E 0 d_W_law_512 rfl rfl ?_
  refine J_iconst E d_W_law_513 ?_
  refine J_iadd E d_W_law_514 ?_
  refine J_sld E hsc ⟨by omega, by omega⟩ d_W_law_515 ?_
  refine J_aload_n E 3 d_W_law_516 rfl rfl ?_
  refine J_iload_n E 0 d_W_law_517 rfl rfl ?_
  refine J_iconst E d_W_law_518 ?_
  refine J_iadd E d_W_law_519 ?_
  refine J_sld E hsc ⟨by omega, by omega⟩ d_W_law_520 ?_
  refine J_aload_n E 3 d_W_law_521 rfl rfl ?_
  refine J_iload_n E 0 d_W_law_522 rfl rfl ?_
  refine J_iconst E d_W_law_523 ?_
  refine J_iadd E d_W_law_524 ?_
  refine J_sld E hsc ⟨by omega, by omega⟩ d_W_law_525 ?_
  refine JT (rest := []) E kb_T_chance t_2_33 t_2_34 t_2_35 (k_T_chance L tm sc bo ra r0 r1 ho di rx kn gr g0 g1 hσ.1 (sv xs (i + 1)) (sv xs (i + 2)) (sv xs (i + 3)) (sv xs (i + 4)) (sv_r xs _) (sv_r xs _) (sv_r xs _) (sv_r xs _)) (fun _ => rfl) (Rm_L (by decide) (by decide) (by decide) (by decide)) hC hR rfl rfl (Nat.le_of_ble_eq_true rfl) d_W_law_526 (fun wC2 hC2 => ?_)
  show J L X 4 16 1321 (wR ++ wC2) [(3, .int (z_i i)), (2, .ref mo), (1, .ref tm), (0, .ref b)] [.long (z_l (m_chance (sv xs (i + 1)) (sv xs (i + 2)) (sv xs (i + 3)) (sv xs (i + 4))))] 529
  refine J_aload_n E 1 d_W_law_529 rfl rfl ?_
  refine J_aload_n E 3 d_W_law_530 rfl rfl ?_
  refine J_iload_n E 0 d_W_law_531 rfl rfl ?_
  refine J_iconst E d_W_law_532 ?_
  refine J_iadd E d_W_law_533 ?_
  refine J_sld E hsc ⟨by omega, by omega⟩ d_W_law_534 ?_
  refine J_aload_n E 3 d_W_law_535 rfl rfl ?_
  refine J_iload_n E 0 d_W_law_536 rfl rfl ?_
  refine J_iconst E d_W_law_537 ?_
  refine J_iadd E d_W_law_538 ?_
  refine J_sld E hsc ⟨by omega, by omega⟩ d_W_law_539 ?_
  refine J_aload_n E 3 d_W_law_540 rfl rfl ?_
  refine J_iload_n E 0 d_W_law_541 rfl rfl ?_
  refine J_iconst E d_W_law_542 ?_
  refine J_iadd E d_W_law_543 ?_
  refine J_sld E hsc ⟨by omega, by omega⟩ d_W_law_544 ?_
  refine J_aload_n E 3 d_W_law_545 rfl rfl ?_
  refine J_iload_n E 0 d_W_law_546 rfl rfl ?_
  refine J_iconst E d_W_law_547 ?_
  refine J_iadd E d_W_law_548 ?_
  refine J_sld E hsc ⟨by omega, by omega⟩ d_W_law_549 ?_
  refine JM (rest := [.long (z_l (m_chance (sv xs (i + 1)) (sv xs (i + 2)) (sv xs (i + 3)) (sv xs (i + 4))))]) E kb_M_chance t_3_29 t_3_30 t_3_31 (k_M_chance L mo ms mb mt mf mc hσ.1 (sv xs (i + 1)) (sv xs (i + 2)) (sv xs (i + 3)) (sv xs (i + 4)) (sv_r xs _) (sv_r xs _) (sv_r xs _) (sv_r xs _)) (fun _ => rfl) (Rm_L (by decide) (by decide) (by decide) (by decide)) hC2 hR rfl rfl (Nat.le_of_ble_eq_true rfl) d_W_law_550 (fun wR2 hR2 => ?_)
  show J L X 4 16 1321 (wC2 ++ wR2) [(3, .int (z_i i)), (2, .ref mo), (1, .ref tm), (0, .ref b)] [.long (z_l (m_chance (sv xs (i + 1)) (sv xs (i + 2)) (sv xs (i + 3)) (sv xs (i + 4)))), .long (z_l (m_chance (sv xs (i + 1)) (sv xs (i + 2)) (sv xs (i + 3)) (sv xs (i + 4))))] 553
  refine J_sameL E d_W_law_553 ?_
  refine J_if_eq E 559 d_W_law_554 (by decide) z_r0 (fun _ => ?_) (fun h => absurd rfl h)
  exact kk (σ) wC2 wR2 hσ hC2 hR2
