theorem py_X11_init : plainY yX11_init 0 = true := by decide +kernel
theorem in_X11_init : gw (.instanceMethod yX11_init) = true := by decide +kernel
theorem ml_L_127 : gw (.methodLink RL 127 yX11_init) = true := by decide +kernel
theorem py_X12_init : plainY yX12_init 0 = true := by decide +kernel
theorem in_X12_init : gw (.instanceMethod yX12_init) = true := by decide +kernel
theorem ml_L_130 : gw (.methodLink RL 130 yX12_init) = true := by decide +kernel
theorem py_L_wheel : plainY yL_wheel 5 = true := by decide +kernel
theorem ml_L_131 : gw (.methodLink RL 131 yL_wheel) = true := by decide +kernel
theorem st_L_wheel : gw (.static yL_wheel) = true := by decide +kernel
theorem py_X12_wheel : plainY yX12_wheel 3 = true := by decide +kernel
theorem in_X12_wheel : gw (.instanceMethod yX12_wheel) = true := by decide +kernel
theorem se_X12_wheel : gw (.selects RX12 yX12_wheel yX12_wheel) = true := by decide +kernel
theorem ml_L_136 : gw (.methodLink RL 136 yX12_wheel) = true := by decide +kernel
theorem py_X12_thrown : plainY yX12_thrown 0 = true := by decide +kernel
theorem in_X12_thrown : gw (.instanceMethod yX12_thrown) = true := by decide +kernel
theorem se_X12_thrown : gw (.selects RX12 yX12_thrown yX12_thrown) = true := by decide +kernel
theorem ml_L_137 : gw (.methodLink RL 137 yX12_thrown) = true := by decide +kernel
theorem py_L_row : plainY yL_row 4 = true := by decide +kernel
theorem ml_L_140 : gw (.methodLink RL 140 yL_row) = true := by decide +kernel
theorem st_L_row : gw (.static yL_row) = true := by decide +kernel
theorem py_X12_row : plainY yX12_row 2 = true := by decide +kernel
theorem in_X12_row : gw (.instanceMethod yX12_row) = true := by decide +kernel
theorem se_X12_row : gw (.selects RX12 yX12_row yX12_row) = true := by decide +kernel
theorem ml_L_143 : gw (.methodLink RL 143 yX12_row) = true := by decide +kernel
theorem py_L_pulse : plainY yL_pulse 5 = true := by decide +kernel
theorem ml_L_144 : gw (.methodLink RL 144 yL_pulse) = true := by decide +kernel
theorem st_L_pulse : gw (.static yL_pulse) = true := by decide +kernel
theorem py_X12_pulse : plainY yX12_pulse 3 = true := by decide +kernel
theorem in_X12_pulse : gw (.instanceMethod yX12_pulse) = true := by decide +kernel
theorem se_X12_pulse : gw (.selects RX12 yX12_pulse yX12_pulse) = true := by decide +kernel
theorem ml_L_146 : gw (.methodLink RL 146 yX12_pulse) = true := by decide +kernel
theorem py_L_tear : plainY yL_tear 4 = true := by decide +kernel
theorem ml_L_147 : gw (.methodLink RL 147 yL_tear) = true := by decide +kernel
theorem st_L_tear : gw (.static yL_tear) = true := by decide +kernel
theorem py_X12_tear : plainY yX12_tear 2 = true := by decide +kernel
theorem in_X12_tear : gw (.instanceMethod yX12_tear) = true := by decide +kernel
theorem se_X12_tear : gw (.selects RX12 yX12_tear yX12_tear) = true := by decide +kernel
theorem ml_L_149 : gw (.methodLink RL 149 yX12_tear) = true := by decide +kernel
theorem py_L_pulses : plainY yL_pulses 4 = true := by decide +kernel
theorem ml_L_150 : gw (.methodLink RL 150 yL_pulses) = true := by decide +kernel
theorem st_L_pulses : gw (.static yL_pulses) = true := by decide +kernel
theorem py_X12_pulses : plainY yX12_pulses 2 = true := by decide +kernel
theorem in_X12_pulses : gw (.instanceMethod yX12_pulses) = true := by decide +kernel
theorem se_X12_pulses : gw (.selects RX12 yX12_pulses yX12_pulses) = true := by decide +kernel
theorem ml_L_152 : gw (.methodLink RL 152 yX12_pulses) = true := by decide +kernel
theorem py_L_tariff : plainY yL_tariff 3 = true := by decide +kernel
theorem ml_L_153 : gw (.methodLink RL 153 yL_tariff) = true := by decide +kernel
theorem st_L_tariff : gw (.static yL_tariff) = true := by decide +kernel
theorem py_X12_tariff : plainY yX12_tariff 1 = true := by decide +kernel
theorem in_X12_tariff : gw (.instanceMethod yX12_tariff) = true := by decide +kernel
theorem se_X12_tariff : gw (.selects RX12 yX12_tariff yX12_tariff) = true := by decide +kernel
theorem ml_L_156 : gw (.methodLink RL 156 yX12_tariff) = true := by decide +kernel
theorem py_L_set : plainY yL_set 5 = true := by decide +kernel
theorem ml_L_157 : gw (.methodLink RL 157 yL_set) = true := by decide +kernel
theorem st_L_set : gw (.static yL_set) = true := by decide +kernel
theorem py_X12_set : plainY yX12_set 3 = true := by decide +kernel
theorem in_X12_set : gw (.instanceMethod yX12_set) = true := by decide +kernel
theorem se_X12_set : gw (.selects RX12 yX12_set yX12_set) = true := by decide +kernel
theorem ml_L_159 : gw (.methodLink RL 159 yX12_set) = true := by decide +kernel
theorem py_L_number : plainY yL_number 4 = true := by decide +kernel
theorem ml_L_160 : gw (.methodLink RL 160 yL_number) = true := by decide +kernel
theorem st_L_number : gw (.static yL_number) = true := by decide +kernel
theorem py_X12_number : plainY yX12_number 2 = true := by decide +kernel
theorem in_X12_number : gw (.instanceMethod yX12_number) = true := by decide +kernel
theorem se_X12_number : gw (.selects RX12 yX12_number yX12_number) = true := by decide +kernel
theorem ml_L_162 : gw (.methodLink RL 162 yX12_number) = true := by decide +kernel
theorem py_L_slot : plainY yL_slot 5 = true := by decide +kernel
theorem ml_L_163 : gw (.methodLink RL 163 yL_slot) = true := by decide +kernel
theorem st_L_slot : gw (.static yL_slot) = true := by decide +kernel
theorem py_X12_slot : plainY yX12_slot 3 = true := by decide +kernel
theorem in_X12_slot : gw (.instanceMethod yX12_slot) = true := by decide +kernel
theorem se_X12_slot : gw (.selects RX12 yX12_slot yX12_slot) = true := by decide +kernel
theorem ml_L_165 : gw (.methodLink RL 165 yX12_slot) = true := by decide +kernel
theorem py_L_kind : plainY yL_kind 3 = true := by decide +kernel
theorem ml_L_166 : gw (.methodLink RL 166 yL_kind) = true := by decide +kernel
theorem st_L_kind : gw (.static yL_kind) = true := by decide +kernel
theorem py_X12_kind : plainY yX12_kind 1 = true := by decide +kernel
theorem in_X12_kind : gw (.instanceMethod yX12_kind) = true := by decide +kernel
theorem se_X12_kind : gw (.selects RX12 yX12_kind yX12_kind) = true := by decide +kernel
theorem ml_L_168 : gw (.methodLink RL 168 yX12_kind) = true := by decide +kernel
theorem py_X11_seal : plainY yX11_seal 0 = true := by decide +kernel
theorem in_X11_seal : gw (.instanceMethod yX11_seal) = true := by decide +kernel
theorem se_X11_seal : gw (.selects RX11 yX11_seal yX11_seal) = true := by decide +kernel
theorem ml_L_169 : gw (.methodLink RL 169 yX11_seal) = true := by decide +kernel
theorem py_X12_seal : plainY yX12_seal 0 = true := by decide +kernel
theorem in_X12_seal : gw (.instanceMethod yX12_seal) = true := by decide +kernel
theorem se_X12_seal : gw (.selects RX12 yX12_seal yX12_seal) = true := by decide +kernel
theorem ml_L_172 : gw (.methodLink RL 172 yX12_seal) = true := by decide +kernel
theorem py_L_breaks : plainY yL_breaks 3 = true := by decide +kernel
theorem ml_L_173 : gw (.methodLink RL 173 yL_breaks) = true := by decide +kernel
theorem st_L_breaks : gw (.static yL_breaks) = true := by decide +kernel
theorem py_X12_breaks : plainY yX12_breaks 1 = true := by decide +kernel
theorem in_X12_breaks : gw (.instanceMethod yX12_breaks) = true := by decide +kernel
theorem se_X12_breaks : gw (.selects RX12 yX12_breaks yX12_breaks) = true := by decide +kernel
theorem ml_L_175 : gw (.methodLink RL 175 yX12_breaks) = true := by decide +kernel
theorem py_L_blow : plainY yL_blow 3 = true := by decide +kernel
theorem ml_L_176 : gw (.methodLink RL 176 yL_blow) = true := by decide +kernel
theorem st_L_blow : gw (.static yL_blow) = true := by decide +kernel
theorem py_X12_blow : plainY yX12_blow 1 = true := by decide +kernel
theorem in_X12_blow : gw (.instanceMethod yX12_blow) = true := by decide +kernel
theorem se_X12_blow : gw (.selects RX12 yX12_blow yX12_blow) = true := by decide +kernel
theorem ml_L_178 : gw (.methodLink RL 178 yX12_blow) = true := by decide +kernel
theorem py_L_sets : plainY yL_sets 3 = true := by decide +kernel
theorem ml_L_179 : gw (.methodLink RL 179 yL_sets) = true := by decide +kernel
theorem st_L_sets : gw (.static yL_sets) = true := by decide +kernel
theorem py_X12_sets : plainY yX12_sets 1 = true := by decide +kernel
theorem in_X12_sets : gw (.instanceMethod yX12_sets) = true := by decide +kernel
theorem se_X12_sets : gw (.selects RX12 yX12_sets yX12_sets) = true := by decide +kernel
theorem ml_L_181 : gw (.methodLink RL 181 yX12_sets) = true := by decide +kernel
theorem py_L_since : plainY yL_since 3 = true := by decide +kernel
theorem ml_L_182 : gw (.methodLink RL 182 yL_since) = true := by decide +kernel
theorem st_L_since : gw (.static yL_since) = true := by decide +kernel
theorem py_X12_since : plainY yX12_since 1 = true := by decide +kernel
theorem in_X12_since : gw (.instanceMethod yX12_since) = true := by decide +kernel
theorem se_X12_since : gw (.selects RX12 yX12_since yX12_since) = true := by decide +kernel
theorem ml_L_184 : gw (.methodLink RL 184 yX12_since) = true := by decide +kernel
theorem py_L_hire : plainY yL_hire 6 = true := by decide +kernel
theorem ml_L_185 : gw (.methodLink RL 185 yL_hire) = true := by decide +kernel
theorem st_L_hire : gw (.static yL_hire) = true := by decide +kernel
theorem py_X12_hire : plainY yX12_hire 4 = true := by decide +kernel
theorem in_X12_hire : gw (.instanceMethod yX12_hire) = true := by decide +kernel
theorem se_X12_hire : gw (.selects RX12 yX12_hire yX12_hire) = true := by decide +kernel
theorem ml_L_188 : gw (.methodLink RL 188 yX12_hire) = true := by decide +kernel
theorem py_L_second : plainY yL_second 2 = true := by decide +kernel
theorem ml_L_189 : gw (.methodLink RL 189 yL_second) = true := by decide +kernel
theorem st_L_second : gw (.static yL_second) = true := by decide +kernel
theorem py_X12_second : plainY yX12_second 0 = true := by decide +kernel
theorem in_X12_second : gw (.instanceMethod yX12_second) = true := by decide +kernel
theorem se_X12_second : gw (.selects RX12 yX12_second yX12_second) = true := by decide +kernel
theorem ml_L_192 : gw (.methodLink RL 192 yX12_second) = true := by decide +kernel
theorem py_L_run : plainY yL_run 3 = true := by decide +kernel
theorem ml_L_193 : gw (.methodLink RL 193 yL_run) = true := by decide +kernel
theorem st_L_run : gw (.static yL_run) = true := by decide +kernel
theorem py_X12_run : plainY yX12_run 1 = true := by decide +kernel
theorem in_X12_run : gw (.instanceMethod yX12_run) = true := by decide +kernel
theorem se_X12_run : gw (.selects RX12 yX12_run yX12_run) = true := by decide +kernel
theorem ml_L_195 : gw (.methodLink RL 195 yX12_run) = true := by decide +kernel
theorem py_L_hand : plainY yL_hand 3 = true := by decide +kernel
theorem ml_L_196 : gw (.methodLink RL 196 yL_hand) = true := by decide +kernel
theorem st_L_hand : gw (.static yL_hand) = true := by decide +kernel
theorem py_X12_hand : plainY yX12_hand 1 = true := by decide +kernel
theorem in_X12_hand : gw (.instanceMethod yX12_hand) = true := by decide +kernel
theorem se_X12_hand : gw (.selects RX12 yX12_hand yX12_hand) = true := by decide +kernel
theorem ml_L_198 : gw (.methodLink RL 198 yX12_hand) = true := by decide +kernel
theorem py_L_extra : plainY yL_extra 3 = true := by decide +kernel
theorem ml_L_199 : gw (.methodLink RL 199 yL_extra) = true := by decide +kernel
theorem st_L_extra : gw (.static yL_extra) = true := by decide +kernel
theorem py_X12_extra : plainY yX12_extra 1 = true := by decide +kernel
theorem in_X12_extra : gw (.instanceMethod yX12_extra) = true := by decide +kernel
theorem se_X12_extra : gw (.selects RX12 yX12_extra yX12_extra) = true := by decide +kernel
theorem ml_L_201 : gw (.methodLink RL 201 yX12_extra) = true := by decide +kernel
theorem py_L_end : plainY yL_end 3 = true := by decide +kernel
theorem ml_L_202 : gw (.methodLink RL 202 yL_end) = true := by decide +kernel
theorem st_L_end : gw (.static yL_end) = true := by decide +kernel
theorem py_X12_end : plainY yX12_end 1 = true := by decide +kernel
theorem in_X12_end : gw (.instanceMethod yX12_end) = true := by decide +kernel
theorem se_X12_end : gw (.selects RX12 yX12_end yX12_end) = true := by decide +kernel
theorem ml_L_204 : gw (.methodLink RL 204 yX12_end) = true := by decide +kernel
theorem py_L_pay : plainY yL_pay 3 = true := by decide +kernel
theorem ml_L_207 : gw (.methodLink RL 207 yL_pay) = true := by decide +kernel
theorem st_L_pay : gw (.static yL_pay) = true := by decide +kernel
theorem py_X12_pay : plainY yX12_pay 1 = true := by decide +kernel
theorem in_X12_pay : gw (.instanceMethod yX12_pay) = true := by decide +kernel
theorem se_X12_pay : gw (.selects RX12 yX12_pay yX12_pay) = true := by decide +kernel
theorem ml_L_210 : gw (.methodLink RL 210 yX12_pay) = true := by decide +kernel
theorem py_L_fare : plainY yL_fare 2 = true := by decide +kernel
theorem ml_L_211 : gw (.methodLink RL 211 yL_fare) = true := by decide +kernel
theorem st_L_fare : gw (.static yL_fare) = true := by decide +kernel
theorem py_X12_fare : plainY yX12_fare 0 = true := by decide +kernel
theorem in_X12_fare : gw (.instanceMethod yX12_fare) = true := by decide +kernel
theorem se_X12_fare : gw (.selects RX12 yX12_fare yX12_fare) = true := by decide +kernel
theorem ml_L_213 : gw (.methodLink RL 213 yX12_fare) = true := by decide +kernel
theorem py_L_part : plainY yL_part 3 = true := by decide +kernel
theorem ml_L_214 : gw (.methodLink RL 214 yL_part) = true := by decide +kernel
theorem st_L_part : gw (.static yL_part) = true := by decide +kernel
theorem py_X12_part : plainY yX12_part 1 = true := by decide +kernel
theorem in_X12_part : gw (.instanceMethod yX12_part) = true := by decide +kernel
theorem se_X12_part : gw (.selects RX12 yX12_part yX12_part) = true := by decide +kernel
theorem ml_L_216 : gw (.methodLink RL 216 yX12_part) = true := by decide +kernel
theorem py_L_about : plainY yL_about 3 = true := by decide +kernel
theorem ml_L_217 : gw (.methodLink RL 217 yL_about) = true := by decide +kernel
theorem st_L_about : gw (.static yL_about) = true := by decide +kernel
theorem py_X12_about : plainY yX12_about 1 = true := by decide +kernel
theorem in_X12_about : gw (.instanceMethod yX12_about) = true := by decide +kernel
theorem se_X12_about : gw (.selects RX12 yX12_about yX12_about) = true := by decide +kernel
theorem ml_L_219 : gw (.methodLink RL 219 yX12_about) = true := by decide +kernel
theorem py_L_dark : plainY yL_dark 3 = true := by decide +kernel
theorem ml_L_220 : gw (.methodLink RL 220 yL_dark) = true := by decide +kernel
theorem st_L_dark : gw (.static yL_dark) = true := by decide +kernel
theorem py_X12_dark : plainY yX12_dark 1 = true := by decide +kernel
theorem in_X12_dark : gw (.instanceMethod yX12_dark) = true := by decide +kernel
theorem se_X12_dark : gw (.selects RX12 yX12_dark yX12_dark) = true := by decide +kernel
theorem ml_L_222 : gw (.methodLink RL 222 yX12_dark) = true := by decide +kernel
theorem py_L_receipt : plainY yL_receipt 4 = true := by decide +kernel
theorem ml_L_223 : gw (.methodLink RL 223 yL_receipt) = true := by decide +kernel
theorem st_L_receipt : gw (.static yL_receipt) = true := by decide +kernel
theorem py_X12_receipt : plainY yX12_receipt 2 = true := by decide +kernel
theorem in_X12_receipt : gw (.instanceMethod yX12_receipt) = true := by decide +kernel
theorem se_X12_receipt : gw (.selects RX12 yX12_receipt yX12_receipt) = true := by decide +kernel
theorem ml_L_225 : gw (.methodLink RL 225 yX12_receipt) = true := by decide +kernel
theorem py_L_again : plainY yL_again 2 = true := by decide +kernel
theorem ml_L_226 : gw (.methodLink RL 226 yL_again) = true := by decide +kernel
theorem st_L_again : gw (.static yL_again) = true := by decide +kernel
theorem py_X12_again : plainY yX12_again 0 = true := by decide +kernel
theorem in_X12_again : gw (.instanceMethod yX12_again) = true := by decide +kernel
theorem se_X12_again : gw (.selects RX12 yX12_again yX12_again) = true := by decide +kernel
theorem ml_L_228 : gw (.methodLink RL 228 yX12_again) = true := by decide +kernel
theorem py_L_leg : plainY yL_leg 4 = true := by decide +kernel
theorem ml_L_229 : gw (.methodLink RL 229 yL_leg) = true := by decide +kernel
theorem st_L_leg : gw (.static yL_leg) = true := by decide +kernel
theorem py_X12_leg : plainY yX12_leg 2 = true := by decide +kernel
theorem in_X12_leg : gw (.instanceMethod yX12_leg) = true := by decide +kernel
theorem se_X12_leg : gw (.selects RX12 yX12_leg yX12_leg) = true := by decide +kernel
theorem ml_L_231 : gw (.methodLink RL 231 yX12_leg) = true := by decide +kernel
theorem py_X11_clear : plainY yX11_clear 0 = true := by decide +kernel
theorem in_X11_clear : gw (.instanceMethod yX11_clear) = true := by decide +kernel
theorem se_X11_clear : gw (.selects RX11 yX11_clear yX11_clear) = true := by decide +kernel
theorem ml_L_232 : gw (.methodLink RL 232 yX11_clear) = true := by decide +kernel
theorem py_X12_clear : plainY yX12_clear 0 = true := by decide +kernel
theorem in_X12_clear : gw (.instanceMethod yX12_clear) = true := by decide +kernel
theorem se_X12_clear : gw (.selects RX12 yX12_clear yX12_clear) = true := by decide +kernel
theorem ml_L_235 : gw (.methodLink RL 235 yX12_clear) = true := by decide +kernel
theorem py_L_should : plainY yL_should 7 = true := by decide +kernel
theorem ml_L_236 : gw (.methodLink RL 236 yL_should) = true := by decide +kernel
theorem st_L_should : gw (.static yL_should) = true := by decide +kernel
theorem py_X12_should : plainY yX12_should 5 = true := by decide +kernel
theorem in_X12_should : gw (.instanceMethod yX12_should) = true := by decide +kernel
theorem se_X12_should : gw (.selects RX12 yX12_should yX12_should) = true := by decide +kernel
theorem ml_L_239 : gw (.methodLink RL 239 yX12_should) = true := by decide +kernel
theorem py_L_error : plainY yL_error 2 = true := by decide +kernel
theorem ml_L_240 : gw (.methodLink RL 240 yL_error) = true := by decide +kernel
theorem st_L_error : gw (.static yL_error) = true := by decide +kernel
theorem py_X12_error : plainY yX12_error 0 = true := by decide +kernel
theorem in_X12_error : gw (.instanceMethod yX12_error) = true := by decide +kernel
theorem se_X12_error : gw (.selects RX12 yX12_error yX12_error) = true := by decide +kernel
theorem ml_L_242 : gw (.methodLink RL 242 yX12_error) = true := by decide +kernel
theorem py_L_within : plainY yL_within 4 = true := by decide +kernel
theorem ml_L_243 : gw (.methodLink RL 243 yL_within) = true := by decide +kernel
theorem st_L_within : gw (.static yL_within) = true := by decide +kernel
theorem py_X12_within : plainY yX12_within 2 = true := by decide +kernel
theorem in_X12_within : gw (.instanceMethod yX12_within) = true := by decide +kernel
theorem se_X12_within : gw (.selects RX12 yX12_within yX12_within) = true := by decide +kernel
theorem ml_L_245 : gw (.methodLink RL 245 yX12_within) = true := by decide +kernel
theorem py_L_keep : plainY yL_keep 2 = true := by decide +kernel
theorem ml_L_246 : gw (.methodLink RL 246 yL_keep) = true := by decide +kernel
theorem st_L_keep : gw (.static yL_keep) = true := by decide +kernel
theorem py_X12_keep : plainY yX12_keep 0 = true := by decide +kernel
theorem in_X12_keep : gw (.instanceMethod yX12_keep) = true := by decide +kernel
theorem se_X12_keep : gw (.selects RX12 yX12_keep yX12_keep) = true := by decide +kernel
theorem ml_L_248 : gw (.methodLink RL 248 yX12_keep) = true := by decide +kernel
theorem py_L_back : plainY yL_back 2 = true := by decide +kernel
theorem ml_L_249 : gw (.methodLink RL 249 yL_back) = true := by decide +kernel
theorem st_L_back : gw (.static yL_back) = true := by decide +kernel
theorem py_X12_back : plainY yX12_back 0 = true := by decide +kernel
theorem in_X12_back : gw (.instanceMethod yX12_back) = true := by decide +kernel
theorem se_X12_back : gw (.selects RX12 yX12_back yX12_back) = true := by decide +kernel
theorem ml_L_251 : gw (.methodLink RL 251 yX12_back) = true := by decide +kernel
theorem tab_L : tabB [] CL [] NwL RL = true := by decide +kernel
def B_L_law : List (Nat × List (Nat × Instr × Nat)) := B_L_law_0 ++ (B_L_law_1 ++ (B_L_law_2 ++ (B_L_law_3 ++ (B_L_law_4 ++ (B_L_law_5 ++ (B_L_law_6 ++ (B_L_law_7 ++ (B_L_law_8 ++ (B_L_law_9 ++ (B_L_law_10 ++ (B_L_law_11 ++ (B_L_law_12 ++ (B_L_law_13 ++ (B_L_law_14 ++ (B_L_law_15 ++ (B_L_law_16 ++ (B_L_law_17 ++ (B_L_law_18 ++ (B_L_law_19 ++ (B_L_law_20 ++ (B_L_law_21 ++ (B_L_law_22 ++ (B_L_law_23 ++ (B_L_law_24 ++ (B_L_law_25 ++ (B_L_law_26 ++ (B_L_law_27 ++ (B_L_law_28 ++ (B_L_law_29 ++ (B_L_law_30 ++ (B_L_law_31 ++ (B_L_law_32 ++ (B_L_law_33 ++ (B_L_law_34 ++ (B_L_law_35 ++ (B_L_law_36 ++ (B_L_law_37 ++ (B_L_law_38 ++ (B_L_law_39 ++ (B_L_law_40 ++ (B_L_law_41 ++ (B_L_law_42 ++ (B_L_law_43 ++ (B_L_law_44 ++ (B_L_law_45 ++ (B_L_law_46 ++ (B_L_law_47 ++ (B_L_law_48 ++ (B_L_law_49 ++ (B_L_law_50 ++ (B_L_law_51 ++ (B_L_law_52 ++ (B_L_law_53 ++ (B_L_law_54 ++ (B_L_law_55 ++ (B_L_law_56 ++ (B_L_law_57 ++ (B_L_law_58 ++ (B_L_law_59 ++ (B_L_law_60 ++ (B_L_law_61 ++ (B_L_law_62 ++ (B_L_law_63 ++ (B_L_law_64 ++ (B_L_law_65 ++ (B_L_law_66 ++ (B_L_law_67 ++ (B_L_law_68 ++ (B_L_law_69 ++ (B_L_law_70 ++ (B_L_law_71 ++ (B_L_law_72 ++ (B_L_law_73 ++ (B_L_law_74 ++ (B_L_law_75 ++ (B_L_law_76 ++ (B_L_law_77 ++ (B_L_law_78 ++ (B_L_law_79 ++ (B_L_law_80 ++ (B_L_law_81 ++ (B_L_law_82 ++ (B_L_law_83 ++ (B_L_law_84 ++ (B_L_law_85 ++ (B_L_law_86 ++ (B_L_law_87 ++ (B_L_law_88 ++ (B_L_law_89 ++ (B_L_law_90 ++ (B_L_law_91 ++ (B_L_law_92 ++ (B_L_law_93 ++ (B_L_law_94 ++ (B_L_law_95 ++ (B_L_law_96 ++ (B_L_law_97 ++ (B_L_law_98 ++ (B_L_law_99 ++ (B_L_law_100 ++ (B_L_law_101 ++ (B_L_law_102 ++ (B_L_law_103 ++ (B_L_law_104 ++ (B_L_law_105 ++ (B_L_law_106 ++ (B_L_law_107 ++ (B_L_law_108 ++ (B_L_law_109 ++ (B_L_law_110 ++ (B_L_law_111 ++ (B_L_law_112 ++ (B_L_law_113 ++ (B_L_law_114 ++ (B_L_law_115 ++ (B_L_law_116))))))))))))))))))))))))))))))))))))))))))))))))))))))))))))))))))))))))))))))))))))))))))))))))))))))))))))))))))))
theorem all_app {α : Type} {f : α → Bool} {l1 l2 : List α} (h1 : l1.all f = true) (h2 : l2.all f = true) : (l1 ++ l2).all f = true := by rw [List.all_append, h1, h2]; rfl
def T_L_law (tb : Nat → Option (Nat × Nat)) : List (Nat × IV) := [(509, ivI 601024 7293034 0 37 8450 0 (w_X11_init tb)), (521, ivI 601024 7293034 0 48 45615 0 (w_X12_init tb)), (526, ivS 601024 7293034 5 3 18 1 (w_L_wheel tb)), (544, ivV tb 12 601024 7293034 3 0 0 1 (w_X12_wheel tb)), (548, ivV tb 12 601024 7293034 0 0 0 1 (w_X12_thrown tb)), (562, ivS 601024 7293034 4 2 12 1 (w_L_row tb)), (572, ivV tb 12 601024 7293034 2 0 0 1 (w_X12_row tb)), (578, ivS 601024 7293034 5 4 24 1 (w_L_pulse tb)), (584, ivV tb 12 601024 7293034 3 0 0 1 (w_X12_pulse tb)), (590, ivS 601024 7293034 4 2 12 1 (w_L_tear tb)), (596, ivV tb 12 601024 7293034 2 0 0 1 (w_X12_tear tb)), (602, ivS 601024 7293034 4 1 6 1 (w_L_pulses tb)), (608, ivV tb 12 601024 7293034 2 0 0 1 (w_X12_pulses tb)), (614, ivS 601024 7293034 3 11 91 1 (w_L_tariff tb)), (624, ivV tb 12 601024 7293034 1 0 0 1 (w_X12_tariff tb)), (630, ivS 601024 7293034 5 4 24 1 (w_L_set tb)), (636, ivV tb 12 601024 7293034 3 0 0 1 (w_X12_set tb)), (642, ivS 601024 7293034 4 2 12 1 (w_L_number tb)), (648, ivV tb 12 601024 7293034 2 0 0 1 (w_X12_number tb)), (654, ivS 601024 7293034 5 4 24 1 (w_L_slot tb)), (660, ivV tb 12 601024 7293034 3 0 0 1 (w_X12_slot tb)), (666, ivS 601024 7293034 3 1 6 1 (w_L_kind tb)), (672, ivV tb 12 601024 7293034 1 0 0 1 (w_X12_kind tb)), (676, ivV tb 11 601024 7293034 0 0 0 1 (w_X11_seal tb)), (688, ivV tb 12 601024 7293034 0 0 0 1 (w_X12_seal tb)), (694, ivS 601024 7293034 3 1 6 1 (w_L_breaks tb)), (700, ivV tb 12 601024 7293034 1 0 0 1 (w_X12_breaks tb)), (706, ivS 601024 7293034 3 3 18 1 (w_L_blow tb)), (712, ivV tb 12 601024 7293034 1 0 0 1 (w_X12_blow tb)), (718, ivS 601024 7293034 3 1 6 1 (w_L_sets tb)), (724, ivV tb 12 601024 7293034 1 0 0 1 (w_X12_sets tb)), (730, ivS 601024 7293034 3 1 6 1 (w_L_since tb)), (736, ivV tb 12 601024 7293034 1 0 0 1 (w_X12_since tb)), (742, ivS 601024 7293034 6 5 30 1 (w_L_hire tb)), (752, ivV tb 12 601024 7293034 4 0 0 1 (w_X12_hire tb)), (758, ivS 601024 7293034 2 2 12 1 (w_L_second tb)), (768, ivV tb 12 601024 7293034 0 0 0 1 (w_X12_second tb)), (774, ivS 601024 7293034 3 2 12 1 (w_L_run tb)), (780, ivV tb 12 601024 7293034 1 0 0 1 (w_X12_run tb)), (786, ivS 601024 7293034 3 5 30 1 (w_L_hand tb)), (792, ivV tb 12 601024 7293034 1 0 0 1 (w_X12_hand tb)), (798, ivS 601024 7293034 3 2 12 1 (w_L_extra tb)), (804, ivV tb 12 601024 7293034 1 0 0 1 (w_X12_extra tb)), (810, ivS 601024 7293034 3 3 2060 1 (w_L_end tb)), (816, ivV tb 12 601024 7293034 1 0 0 3 (w_X12_end tb)), (830, ivS 601024 7293034 3 3 18 1 (w_L_pay tb)), (840, ivV tb 12 601024 7293034 1 0 0 3 (w_X12_pay tb)), (846, ivS 601024 7293034 2 1 6 1 (w_L_fare tb)), (852, ivV tb 12 601024 7293034 0 0 0 3 (w_X12_fare tb)), (858, ivS 601024 7293034 3 2 12 1 (w_L_part tb)), (864, ivV tb 12 601024 7293034 1 0 0 1 (w_X12_part tb)), (870, ivS 601024 7293034 3 1 6 1 (w_L_about tb)), (876, ivV tb 12 601024 7293034 1 0 0 1 (w_X12_about tb)), (882, ivS 601024 7293034 3 1 6 1 (w_L_dark tb)), (888, ivV tb 12 601024 7293034 1 0 0 1 (w_X12_dark tb)), (894, ivS 601024 7293034 4 1 6 1 (w_L_receipt tb)), (900, ivV tb 12 601024 7293034 2 0 0 1 (w_X12_receipt tb)), (906, ivS 601024 7293034 2 2 12 1 (w_L_again tb)), (912, ivV tb 12 601024 7293034 0 0 0 3 (w_X12_again tb)), (918, ivS 601024 7293034 4 1 6 1 (w_L_leg tb)), (924, ivV tb 12 601024 7293034 2 0 0 1 (w_X12_leg tb)), (928, ivV tb 11 601024 7293034 0 0 0 1 (w_X11_clear tb)), (940, ivV tb 12 601024 7293034 0 0 0 1 (w_X12_clear tb)), (946, ivS 601024 7293034 7 5 30 1 (w_L_should tb)), (956, ivV tb 12 601024 7293034 5 0 0 3 (w_X12_should tb)), (962, ivS 601024 7293034 2 1 6 1 (w_L_error tb)), (968, ivV tb 12 601024 7293034 0 0 0 1 (w_X12_error tb)), (974, ivS 601024 7293034 4 7 204 1 (w_L_within tb)), (980, ivV tb 12 601024 7293034 2 0 0 1 (w_X12_within tb)), (986, ivS 601024 7293034 2 1 6 1 (w_L_keep tb)), (992, ivV tb 12 601024 7293034 0 0 0 1 (w_X12_keep tb)), (998, ivS 601024 7293034 2 2 12 1 (w_L_back tb)), (1004, ivV tb 12 601024 7293034 0 0 0 1 (w_X12_back tb))]
def M_L_law (tb : Nat → Option (Nat × Nat)) : MT := (tb, [], [], CL, NwL, ivOf (T_L_law tb), 601024, 7293034, 2)
def r_L_law (tb : Nat → Option (Nat × Nat)) (K : Option AV → AX → Prop) (KX : String → AX → Prop) : PT := lfp (wpm (M_L_law tb) B_L_law K (fun _ _ _ E X _ _ => KX E X))
theorem k_L_law : B_L_law.all (blkB [] CL NwL RL false code) = true := all_app k_L_law_0 (all_app k_L_law_1 (all_app k_L_law_2 (all_app k_L_law_3 (all_app k_L_law_4 (all_app k_L_law_5 (all_app k_L_law_6 (all_app k_L_law_7 (all_app k_L_law_8 (all_app k_L_law_9 (all_app k_L_law_10 (all_app k_L_law_11 (all_app k_L_law_12 (all_app k_L_law_13 (all_app k_L_law_14 (all_app k_L_law_15 (all_app k_L_law_16 (all_app k_L_law_17 (all_app k_L_law_18 (all_app k_L_law_19 (all_app k_L_law_20 (all_app k_L_law_21 (all_app k_L_law_22 (all_app k_L_law_23 (all_app k_L_law_24 (all_app k_L_law_25 (all_app k_L_law_26 (all_app k_L_law_27 (all_app k_L_law_28 (all_app k_L_law_29 (all_app k_L_law_30 (all_app k_L_law_31 (all_app k_L_law_32 (all_app k_L_law_33 (all_app k_L_law_34 (all_app k_L_law_35 (all_app k_L_law_36 (all_app k_L_law_37 (all_app k_L_law_38 (all_app k_L_law_39 (all_app k_L_law_40 (all_app k_L_law_41 (all_app k_L_law_42 (all_app k_L_law_43 (all_app k_L_law_44 (all_app k_L_law_45 (all_app k_L_law_46 (all_app k_L_law_47 (all_app k_L_law_48 (all_app k_L_law_49 (all_app k_L_law_50 (all_app k_L_law_51 (all_app k_L_law_52 (all_app k_L_law_53 (all_app k_L_law_54 (all_app k_L_law_55 (all_app k_L_law_56 (all_app k_L_law_57 (all_app k_L_law_58 (all_app k_L_law_59 (all_app k_L_law_60 (all_app k_L_law_61 (all_app k_L_law_62 (all_app k_L_law_63 (all_app k_L_law_64 (all_app k_L_law_65 (all_app k_L_law_66 (all_app k_L_law_67 (all_app k_L_law_68 (all_app k_L_law_69 (all_app k_L_law_70 (all_app k_L_law_71 (all_app k_L_law_72 (all_app k_L_law_73 (all_app k_L_law_74 (all_app k_L_law_75 (all_app k_L_law_76 (all_app k_L_law_77 (all_app k_L_law_78 (all_app k_L_law_79 (all_app k_L_law_80 (all_app k_L_law_81 (all_app k_L_law_82 (all_app k_L_law_83 (all_app k_L_law_84 (all_app k_L_law_85 (all_app k_L_law_86 (all_app k_L_law_87 (all_app k_L_law_88 (all_app k_L_law_89 (all_app k_L_law_90 (all_app k_L_law_91 (all_app k_L_law_92 (all_app k_L_law_93 (all_app k_L_law_94 (all_app k_L_law_95 (all_app k_L_law_96 (all_app k_L_law_97 (all_app k_L_law_98 (all_app k_L_law_99 (all_app k_L_law_100 (all_app k_L_law_101 (all_app k_L_law_102 (all_app k_L_law_103 (all_app k_L_law_104 (all_app k_L_law_105 (all_app k_L_law_106 (all_app k_L_law_107 (all_app k_L_law_108 (all_app k_L_law_109 (all_app k_L_law_110 (all_app k_L_law_111 (all_app k_L_law_112 (all_app k_L_law_113 (all_app k_L_law_114 (all_app k_L_law_115 (k_L_law_116))))))))))))))))))))))))))))))))))))))))))))))))))))))))))))))))))))))))))))))))))))))))))))))))))))))))))))))))))))
theorem v_L_law {l : Launch} {G : GX} (hl : l.stackTraces = false) : allL (fun q => IvOK G l room_1 (M_L_law (gT G)) RL false q.1 q.2) (T_L_law (gT G)) := ⟨ivI_ok (c_X11_init hl) g_X11_init.1 g_X11_init.2 ml_L_127 in_X11_init py_X11_init rfl rfl, ivI_ok (c_X12_init hl) g_X12_init.1 g_X12_init.2 ml_L_130 in_X12_init py_X12_init rfl rfl, ivSW_ok (c_L_wheel hl) g_L_wheel.1 g_L_wheel.2 ml_L_131 st_L_wheel py_L_wheel rfl, ivV_ok (ci := 12) (c_X12_wheel hl) g_X12_wheel.1 g_X12_wheel.2 ml_L_136 in_X12_wheel py_X12_wheel rfl se_X12_wheel, ivV_ok (ci := 12) (c_X12_thrown hl) g_X12_thrown.1 g_X12_thrown.2 ml_L_137 in_X12_thrown py_X12_thrown rfl se_X12_thrown, ivSW_ok (c_L_row hl) g_L_row.1 g_L_row.2 ml_L_140 st_L_row py_L_row rfl, ivV_ok (ci := 12) (c_X12_row hl) g_X12_row.1 g_X12_row.2 ml_L_143 in_X12_row py_X12_row rfl se_X12_row, ivSW_ok (c_L_pulse hl) g_L_pulse.1 g_L_pulse.2 ml_L_144 st_L_pulse py_L_pulse rfl, ivV_ok (ci := 12) (c_X12_pulse hl) g_X12_pulse.1 g_X12_pulse.2 ml_L_146 in_X12_pulse py_X12_pulse rfl se_X12_pulse, ivSW_ok (c_L_tear hl) g_L_tear.1 g_L_tear.2 ml_L_147 st_L_tear py_L_tear rfl, ivV_ok (ci := 12) (c_X12_tear hl) g_X12_tear.1 g_X12_tear.2 ml_L_149 in_X12_tear py_X12_tear rfl se_X12_tear, ivSW_ok (c_L_pulses hl) g_L_pulses.1 g_L_pulses.2 ml_L_150 st_L_pulses py_L_pulses rfl, ivV_ok (ci := 12) (c_X12_pulses hl) g_X12_pulses.1 g_X12_pulses.2 ml_L_152 in_X12_pulses py_X12_pulses rfl se_X12_pulses, ivSW_ok (c_L_tariff hl) g_L_tariff.1 g_L_tariff.2 ml_L_153 st_L_tariff py_L_tariff rfl, ivV_ok (ci := 12) (c_X12_tariff hl) g_X12_tariff.1 g_X12_tariff.2 ml_L_156 in_X12_tariff py_X12_tariff rfl se_X12_tariff, ivSW_ok (c_L_set hl) g_L_set.1 g_L_set.2 ml_L_157 st_L_set py_L_set rfl, ivV_ok (ci := 12) (c_X12_set hl) g_X12_set.1 g_X12_set.2 ml_L_159 in_X12_set py_X12_set rfl se_X12_set, ivSW_ok (c_L_number hl) g_L_number.1 g_L_number.2 ml_L_160 st_L_number py_L_number rfl, ivV_ok (ci := 12) (c_X12_number hl) g_X12_number.1 g_X12_number.2 ml_L_162 in_X12_number py_X12_number rfl se_X12_number, ivSW_ok (c_L_slot hl) g_L_slot.1 g_L_slot.2 ml_L_163 st_L_slot py_L_slot rfl, ivV_ok (ci := 12) (c_X12_slot hl) g_X12_slot.1 g_X12_slot.2 ml_L_165 in_X12_slot py_X12_slot rfl se_X12_slot, ivSW_ok (c_L_kind hl) g_L_kind.1 g_L_kind.2 ml_L_166 st_L_kind py_L_kind rfl, ivV_ok (ci := 12) (c_X12_kind hl) g_X12_kind.1 g_X12_kind.2 ml_L_168 in_X12_kind py_X12_kind rfl se_X12_kind, ivV_ok (ci := 11) (c_X11_seal hl) g_X11_seal.1 g_X11_seal.2 ml_L_169 in_X11_seal py_X11_seal rfl se_X11_seal, ivV_ok (ci := 12) (c_X12_seal hl) g_X12_seal.1 g_X12_seal.2 ml_L_172 in_X12_seal py_X12_seal rfl se_X12_seal, ivSW_ok (c_L_breaks hl) g_L_breaks.1 g_L_breaks.2 ml_L_173 st_L_breaks py_L_breaks rfl, ivV_ok (ci := 12) (c_X12_breaks hl) g_X12_breaks.1 g_X12_breaks.2 ml_L_175 in_X12_breaks py_X12_breaks rfl se_X12_breaks, ivSW_ok (c_L_blow hl) g_L_blow.1 g_L_blow.2 ml_L_176 st_L_blow py_L_blow rfl, ivV_ok (ci := 12) (c_X12_blow hl) g_X12_blow.1 g_X12_blow.2 ml_L_178 in_X12_blow py_X12_blow rfl se_X12_blow, ivSW_ok (c_L_sets hl) g_L_sets.1 g_L_sets.2 ml_L_179 st_L_sets py_L_sets rfl, ivV_ok (ci := 12) (c_X12_sets hl) g_X12_sets.1 g_X12_sets.2 ml_L_181 in_X12_sets py_X12_sets rfl se_X12_sets, ivSW_ok (c_L_since hl) g_L_since.1 g_L_since.2 ml_L_182 st_L_since py_L_since rfl, ivV_ok (ci := 12) (c_X12_since hl) g_X12_since.1 g_X12_since.2 ml_L_184 in_X12_since py_X12_since rfl se_X12_since, ivSW_ok (c_L_hire hl) g_L_hire.1 g_L_hire.2 ml_L_185 st_L_hire py_L_hire rfl, ivV_ok (ci := 12) (c_X12_hire hl) g_X12_hire.1 g_X12_hire.2 ml_L_188 in_X12_hire py_X12_hire rfl se_X12_hire, ivSW_ok (c_L_second hl) g_L_second.1 g_L_second.2 ml_L_189 st_L_second py_L_second rfl, ivV_ok (ci := 12) (c_X12_second hl) g_X12_second.1 g_X12_second.2 ml_L_192 in_X12_second py_X12_second rfl se_X12_second, ivSW_ok (c_L_run hl) g_L_run.1 g_L_run.2 ml_L_193 st_L_run py_L_run rfl, ivV_ok (ci := 12) (c_X12_run hl) g_X12_run.1 g_X12_run.2 ml_L_195 in_X12_run py_X12_run rfl se_X12_run, ivSW_ok (c_L_hand hl) g_L_hand.1 g_L_hand.2 ml_L_196 st_L_hand py_L_hand rfl, ivV_ok (ci := 12) (c_X12_hand hl) g_X12_hand.1 g_X12_hand.2 ml_L_198 in_X12_hand py_X12_hand rfl se_X12_hand, ivSW_ok (c_L_extra hl) g_L_extra.1 g_L_extra.2 ml_L_199 st_L_extra py_L_extra rfl, ivV_ok (ci := 12) (c_X12_extra hl) g_X12_extra.1 g_X12_extra.2 ml_L_201 in_X12_extra py_X12_extra rfl se_X12_extra, ivSW_ok (c_L_end hl) g_L_end.1 g_L_end.2 ml_L_202 st_L_end py_L_end rfl, ivV_ok (ci := 12) (c_X12_end hl) g_X12_end.1 g_X12_end.2 ml_L_204 in_X12_end py_X12_end rfl se_X12_end, ivSW_ok (c_L_pay hl) g_L_pay.1 g_L_pay.2 ml_L_207 st_L_pay py_L_pay rfl, ivV_ok (ci := 12) (c_X12_pay hl) g_X12_pay.1 g_X12_pay.2 ml_L_210 in_X12_pay py_X12_pay rfl se_X12_pay, ivSW_ok (c_L_fare hl) g_L_fare.1 g_L_fare.2 ml_L_211 st_L_fare py_L_fare rfl, ivV_ok (ci := 12) (c_X12_fare hl) g_X12_fare.1 g_X12_fare.2 ml_L_213 in_X12_fare py_X12_fare rfl se_X12_fare, ivSW_ok (c_L_part hl) g_L_part.1 g_L_part.2 ml_L_214 st_L_part py_L_part rfl, ivV_ok (ci := 12) (c_X12_part hl) g_X12_part.1 g_X12_part.2 ml_L_216 in_X12_part py_X12_part rfl se_X12_part, ivSW_ok (c_L_about hl) g_L_about.1 g_L_about.2 ml_L_217 st_L_about py_L_about rfl, ivV_ok (ci := 12) (c_X12_about hl) g_X12_about.1 g_X12_about.2 ml_L_219 in_X12_about py_X12_about rfl se_X12_about, ivSW_ok (c_L_dark hl) g_L_dark.1 g_L_dark.2 ml_L_220 st_L_dark py_L_dark rfl, ivV_ok (ci := 12) (c_X12_dark hl) g_X12_dark.1 g_X12_dark.2 ml_L_222 in_X12_dark py_X12_dark rfl se_X12_dark, ivSW_ok (c_L_receipt hl) g_L_receipt.1 g_L_receipt.2 ml_L_223 st_L_receipt py_L_receipt rfl, ivV_ok (ci := 12) (c_X12_receipt hl) g_X12_receipt.1 g_X12_receipt.2 ml_L_225 in_X12_receipt py_X12_receipt rfl se_X12_receipt, ivSW_ok (c_L_again hl) g_L_again.1 g_L_again.2 ml_L_226 st_L_again py_L_again rfl, ivV_ok (ci := 12) (c_X12_again hl) g_X12_again.1 g_X12_again.2 ml_L_228 in_X12_again py_X12_again rfl se_X12_again, ivSW_ok (c_L_leg hl) g_L_leg.1 g_L_leg.2 ml_L_229 st_L_leg py_L_leg rfl, ivV_ok (ci := 12) (c_X12_leg hl) g_X12_leg.1 g_X12_leg.2 ml_L_231 in_X12_leg py_X12_leg rfl se_X12_leg, ivV_ok (ci := 11) (c_X11_clear hl) g_X11_clear.1 g_X11_clear.2 ml_L_232 in_X11_clear py_X11_clear rfl se_X11_clear, ivV_ok (ci := 12) (c_X12_clear hl) g_X12_clear.1 g_X12_clear.2 ml_L_235 in_X12_clear py_X12_clear rfl se_X12_clear, ivSW_ok (c_L_should hl) g_L_should.1 g_L_should.2 ml_L_236 st_L_should py_L_should rfl, ivV_ok (ci := 12) (c_X12_should hl) g_X12_should.1 g_X12_should.2 ml_L_239 in_X12_should py_X12_should rfl se_X12_should, ivSW_ok (c_L_error hl) g_L_error.1 g_L_error.2 ml_L_240 st_L_error py_L_error rfl, ivV_ok (ci := 12) (c_X12_error hl) g_X12_error.1 g_X12_error.2 ml_L_242 in_X12_error py_X12_error rfl se_X12_error, ivSW_ok (c_L_within hl) g_L_within.1 g_L_within.2 ml_L_243 st_L_within py_L_within rfl, ivV_ok (ci := 12) (c_X12_within hl) g_X12_within.1 g_X12_within.2 ml_L_245 in_X12_within py_X12_within rfl se_X12_within, ivSW_ok (c_L_keep hl) g_L_keep.1 g_L_keep.2 ml_L_246 st_L_keep py_L_keep rfl, ivV_ok (ci := 12) (c_X12_keep hl) g_X12_keep.1 g_X12_keep.2 ml_L_248 in_X12_keep py_X12_keep rfl se_X12_keep, ivSW_ok (c_L_back hl) g_L_back.1 g_L_back.2 ml_L_249 st_L_back py_L_back rfl, ivV_ok (ci := 12) (c_X12_back hl) g_X12_back.1 g_X12_back.2 ml_L_251 in_X12_back py_X12_back rfl se_X12_back, trivial⟩
