set_option maxHeartbeats 400000 in
theorem s_X7_joined (a0 : Int32) (a1 : Int32) (a2 : Int32) (σ : zg_S) (hσ : IMc σ)  : zk (f_X7_joined a0 a1 a2 σ) (fun r s => σ = s) := by
  unfold f_X7_joined
  refine zk_ite (fun h1 => ?_) (fun h1 => ?_)
  · have g2 := zeq h1
    have e3 := zt_38
    refine zk_ite (fun h4 => ?_) (fun h4 => ?_)
    · have g5 := zeq h4
      have e6 := zt_0
      exact zk_some rfl
    · have g7 := zne h4
      have e8 := zt_0
      refine zk_ite (fun h9 => ?_) (fun h9 => ?_)
      · have g10 := zeq h9
        exact zk_some rfl
      · have g11 := zne h9
        exact zk_some rfl
  · have g12 := zne h1
    have e13 := zt_38
    refine zk_ite (fun h14 => ?_) (fun h14 => ?_)
    · have g15 := zeq h14
      have e16 := zt_39
      unfold B_X7_joined_197
      refine zk_ite (fun h17 => ?_) (fun h17 => ?_)
      · have g18 := zeq h17
        have e19 := zt_0
        refine zk_ite (fun h20 => ?_) (fun h20 => ?_)
        · have g21 := zeq h20
          exact zk_some rfl
        · have g22 := zne h20
          exact zk_some rfl
      · have g23 := zne h17
        have e24 := zt_0
        exact zk_some rfl
    · have g25 := zne h14
      have e26 := zt_39
      refine zk_ite (fun h27 => ?_) (fun h27 => ?_)
      · have g28 := zeq h27
        have e29 := zt_40
        unfold B_X7_joined_197
        refine zk_ite (fun h30 => ?_) (fun h30 => ?_)
        · have g31 := zeq h30
          have e32 := zt_0
          refine zk_ite (fun h33 => ?_) (fun h33 => ?_)
          · have g34 := zeq h33
            exact zk_some rfl
          · have g35 := zne h33
            exact zk_some rfl
        · have g36 := zne h30
          have e37 := zt_0
          exact zk_some rfl
      · have g38 := zne h27
        have e39 := zt_40
        refine zk_ite (fun h40 => ?_) (fun h40 => ?_)
        · have g41 := zeq h40
          have e42 := zt_41
          unfold B_X7_joined_197
          refine zk_ite (fun h43 => ?_) (fun h43 => ?_)
          · have g44 := zeq h43
            have e45 := zt_0
            refine zk_ite (fun h46 => ?_) (fun h46 => ?_)
            · have g47 := zeq h46
              exact zk_some rfl
            · have g48 := zne h46
              exact zk_some rfl
          · have g49 := zne h43
            have e50 := zt_0
            exact zk_some rfl
        · have g51 := zne h40
          have e52 := zt_41
          refine zk_ite (fun h53 => ?_) (fun h53 => ?_)
          · have g54 := zeq h53
            have e55 := zt_42
            exact zk_some rfl
          · have g56 := zne h53
            have e57 := zt_42
            refine zk_ite (fun h58 => ?_) (fun h58 => ?_)
            · have g59 := zeq h58
              have e60 := zt_43
              exact zk_some rfl
            · have g61 := zne h58
              have e62 := zt_43
              refine zk_ite (fun h63 => ?_) (fun h63 => ?_)
              · have g64 := zeq h63
                have e65 := zt_44
                unfold B_X7_joined_197
                refine zk_ite (fun h66 => ?_) (fun h66 => ?_)
                · have g67 := zeq h66
                  have e68 := zt_0
                  refine zk_ite (fun h69 => ?_) (fun h69 => ?_)
                  · have g70 := zeq h69
                    exact zk_some rfl
                  · have g71 := zne h69
                    exact zk_some rfl
                · have g72 := zne h66
                  have e73 := zt_0
                  exact zk_some rfl
              · have g74 := zne h63
                have e75 := zt_44
                refine zk_ite (fun h76 => ?_) (fun h76 => ?_)
                · have g77 := zeq h76
                  have e78 := zt_45
                  exact zk_some rfl
                · have g79 := zne h76
                  have e80 := zt_45
                  refine zk_ite (fun h81 => ?_) (fun h81 => ?_)
                  · have g82 := zeq h81
                    have e83 := zt_46
                    unfold B_X7_joined_197
                    refine zk_ite (fun h84 => ?_) (fun h84 => ?_)
                    · have g85 := zeq h84
                      have e86 := zt_0
                      refine zk_ite (fun h87 => ?_) (fun h87 => ?_)
                      · have g88 := zeq h87
                        exact zk_some rfl
                      · have g89 := zne h87
                        exact zk_some rfl
                    · have g90 := zne h84
                      have e91 := zt_0
                      exact zk_some rfl
                  · have g92 := zne h81
                    have e93 := zt_46
                    refine zk_ite (fun h94 => ?_) (fun h94 => ?_)
                    · have g95 := zeq h94
                      have e96 := zt_47
                      refine zk_ite (fun h97 => ?_) (fun h97 => ?_)
                      · have g98 := zeq h97
                        have e99 := zt_0
                        exact zk_some rfl
                      · have g100 := zne h97
                        have e101 := zt_0
                        refine zk_ite (fun h102 => ?_) (fun h102 => ?_)
                        · have g103 := zeq h102
                          have e104 := zt_m1
                          exact zk_some rfl
                        · have g105 := zne h102
                          have e106 := zt_m1
                          refine zk_nz (by first | assumption | omega) ?_
                          exact zk_some rfl
                    · have g107 := zne h94
                      have e108 := zt_47
                      refine zk_ite (fun h109 => ?_) (fun h109 => ?_)
                      · have g110 := zeq h109
                        have e111 := zt_48
                        unfold B_X7_joined_197
                        refine zk_ite (fun h112 => ?_) (fun h112 => ?_)
                        · have g113 := zeq h112
                          have e114 := zt_0
                          refine zk_ite (fun h115 => ?_) (fun h115 => ?_)
                          · have g116 := zeq h115
                            exact zk_some rfl
                          · have g117 := zne h115
                            exact zk_some rfl
                        · have g118 := zne h112
                          have e119 := zt_0
                          exact zk_some rfl
                      · have g120 := zne h109
                        have e121 := zt_48
                        refine zk_ite (fun h122 => ?_) (fun h122 => ?_)
                        · have g123 := zeq h122
                          have e124 := zt_49
                          unfold B_X7_joined_197
                          refine zk_ite (fun h125 => ?_) (fun h125 => ?_)
                          · have g126 := zeq h125
                            have e127 := zt_0
                            refine zk_ite (fun h128 => ?_) (fun h128 => ?_)
                            · have g129 := zeq h128
                              exact zk_some rfl
                            · have g130 := zne h128
                              exact zk_some rfl
                          · have g131 := zne h125
                            have e132 := zt_0
                            exact zk_some rfl
                        · have g133 := zne h122
                          have e134 := zt_49
                          refine zk_ite (fun h135 => ?_) (fun h135 => ?_)
                          · have g136 := zeq h135
                            have e137 := zt_50
                            unfold B_X7_joined_197
                            refine zk_ite (fun h138 => ?_) (fun h138 => ?_)
                            · have g139 := zeq h138
                              have e140 := zt_0
                              refine zk_ite (fun h141 => ?_) (fun h141 => ?_)
                              · have g142 := zeq h141
                                exact zk_some rfl
                              · have g143 := zne h141
                                exact zk_some rfl
                            · have g144 := zne h138
                              have e145 := zt_0
                              exact zk_some rfl
                          · have g146 := zne h135
                            have e147 := zt_50
                            refine zk_ite (fun h148 => ?_) (fun h148 => ?_)
                            · have g149 := zeq h148
                              have e150 := zt_51
                              unfold B_X7_joined_197
                              refine zk_ite (fun h151 => ?_) (fun h151 => ?_)
                              · have g152 := zeq h151
                                have e153 := zt_0
                                refine zk_ite (fun h154 => ?_) (fun h154 => ?_)
                                · have g155 := zeq h154
                                  exact zk_some rfl
                                · have g156 := zne h154
                                  exact zk_some rfl
                              · have g157 := zne h151
                                have e158 := zt_0
                                exact zk_some rfl
                            · have g159 := zne h148
                              have e160 := zt_51
                              refine zk_ite (fun h161 => ?_) (fun h161 => ?_)
                              · have g162 := zeq h161
                                have e163 := zt_52
                                unfold B_X7_joined_197
                                refine zk_ite (fun h164 => ?_) (fun h164 => ?_)
                                · have g165 := zeq h164
                                  have e166 := zt_0
                                  refine zk_ite (fun h167 => ?_) (fun h167 => ?_)
                                  · have g168 := zeq h167
                                    exact zk_some rfl
                                  · have g169 := zne h167
                                    exact zk_some rfl
                                · have g170 := zne h164
                                  have e171 := zt_0
                                  exact zk_some rfl
                              · have g172 := zne h161
                                have e173 := zt_52
                                refine zk_ite (fun h174 => ?_) (fun h174 => ?_)
                                · have g175 := zeq h174
                                  have e176 := zt_53
                                  unfold B_X7_joined_197
                                  refine zk_ite (fun h177 => ?_) (fun h177 => ?_)
                                  · have g178 := zeq h177
                                    have e179 := zt_0
                                    refine zk_ite (fun h180 => ?_) (fun h180 => ?_)
                                    · have g181 := zeq h180
                                      exact zk_some rfl
                                    · have g182 := zne h180
                                      exact zk_some rfl
                                  · have g183 := zne h177
                                    have e184 := zt_0
                                    exact zk_some rfl
                                · have g185 := zne h174
                                  have e186 := zt_53
                                  refine zk_ite (fun h187 => ?_) (fun h187 => ?_)
                                  · have g188 := zeq h187
                                    have e189 := zt_54
                                    unfold B_X7_joined_197
                                    refine zk_ite (fun h190 => ?_) (fun h190 => ?_)
                                    · have g191 := zeq h190
                                      have e192 := zt_0
                                      refine zk_ite (fun h193 => ?_) (fun h193 => ?_)
                                      · have g194 := zeq h193
                                        exact zk_some rfl
                                      · have g195 := zne h193
                                        exact zk_some rfl
                                    · have g196 := zne h190
                                      have e197 := zt_0
                                      exact zk_some rfl
                                  · have g198 := zne h187
                                    have e199 := zt_54
                                    refine zk_ite (fun h200 => ?_) (fun h200 => ?_)
                                    · have g201 := zeq h200
                                      have e202 := zt_55
                                      unfold B_X7_joined_197
                                      refine zk_ite (fun h203 => ?_) (fun h203 => ?_)
                                      · have g204 := zeq h203
                                        have e205 := zt_0
                                        refine zk_ite (fun h206 => ?_) (fun h206 => ?_)
                                        · have g207 := zeq h206
                                          exact zk_some rfl
                                        · have g208 := zne h206
                                          exact zk_some rfl
                                      · have g209 := zne h203
                                        have e210 := zt_0
                                        exact zk_some rfl
                                    · have g211 := zne h200
                                      have e212 := zt_55
                                      refine zk_ite (fun h213 => ?_) (fun h213 => ?_)
                                      · have g214 := zeq h213
                                        have e215 := zt_56
                                        unfold B_X7_joined_197
                                        refine zk_ite (fun h216 => ?_) (fun h216 => ?_)
                                        · have g217 := zeq h216
                                          have e218 := zt_0
                                          refine zk_ite (fun h219 => ?_) (fun h219 => ?_)
                                          · have g220 := zeq h219
                                            exact zk_some rfl
                                          · have g221 := zne h219
                                            exact zk_some rfl
                                        · have g222 := zne h216
                                          have e223 := zt_0
                                          exact zk_some rfl
                                      · have g224 := zne h213
                                        have e225 := zt_56
                                        refine zk_ite (fun h226 => ?_) (fun h226 => ?_)
                                        · have g227 := zeq h226
                                          have e228 := zt_57
                                          unfold B_X7_joined_197
                                          refine zk_ite (fun h229 => ?_) (fun h229 => ?_)
                                          · have g230 := zeq h229
                                            have e231 := zt_0
                                            refine zk_ite (fun h232 => ?_) (fun h232 => ?_)
                                            · have g233 := zeq h232
                                              exact zk_some rfl
                                            · have g234 := zne h232
                                              exact zk_some rfl
                                          · have g235 := zne h229
                                            have e236 := zt_0
                                            exact zk_some rfl
                                        · have g237 := zne h226
                                          have e238 := zt_57
                                          refine zk_ite (fun h239 => ?_) (fun h239 => ?_)
                                          · have g240 := zeq h239
                                            have e241 := zt_58
                                            unfold B_X7_joined_197
                                            refine zk_ite (fun h242 => ?_) (fun h242 => ?_)
                                            · have g243 := zeq h242
                                              have e244 := zt_0
                                              refine zk_ite (fun h245 => ?_) (fun h245 => ?_)
                                              · have g246 := zeq h245
                                                exact zk_some rfl
                                              · have g247 := zne h245
                                                exact zk_some rfl
                                            · have g248 := zne h242
                                              have e249 := zt_0
                                              exact zk_some rfl
                                          · have g250 := zne h239
                                            have e251 := zt_58
                                            refine zk_ite (fun h252 => ?_) (fun h252 => ?_)
                                            · have g253 := zeq h252
                                              have e254 := zt_59
                                              unfold B_X7_joined_197
                                              refine zk_ite (fun h255 => ?_) (fun h255 => ?_)
                                              · have g256 := zeq h255
                                                have e257 := zt_0
                                                refine zk_ite (fun h258 => ?_) (fun h258 => ?_)
                                                · have g259 := zeq h258
                                                  exact zk_some rfl
                                                · have g260 := zne h258
                                                  exact zk_some rfl
                                              · have g261 := zne h255
                                                have e262 := zt_0
                                                exact zk_some rfl
                                            · have g263 := zne h252
                                              have e264 := zt_59
                                              refine zk_ite (fun h265 => ?_) (fun h265 => ?_)
                                              · have g266 := zeq h265
                                                have e267 := zt_60
                                                refine zk_ite (fun h268 => ?_) (fun h268 => ?_)
                                                · have g269 := zle h268
                                                  exact zk_some rfl
                                                · have g270 := znle h268
                                                  exact zk_some rfl
                                              · have g271 := zne h265
                                                have e272 := zt_60
                                                refine zk_ite (fun h273 => ?_) (fun h273 => ?_)
                                                · have g274 := zeq h273
                                                  have e275 := zt_61
                                                  refine zk_ite (fun h276 => ?_) (fun h276 => ?_)
                                                  · have g277 := zeq h276
                                                    exact zk_some rfl
                                                  · have g278 := zne h276
                                                    exact zk_some rfl
                                                · have g279 := zne h273
                                                  have e280 := zt_61
                                                  refine zk_ite (fun h281 => ?_) (fun h281 => ?_)
                                                  · have g282 := zeq h281
                                                    have e283 := zt_62
                                                    refine zk_ite (fun h284 => ?_) (fun h284 => ?_)
                                                    · have g285 := zle h284
                                                      exact zk_some rfl
                                                    · have g286 := znle h284
                                                      exact zk_some rfl
                                                  · have g287 := zne h281
                                                    have e288 := zt_62
                                                    unfold B_X7_joined_197
                                                    refine zk_ite (fun h289 => ?_) (fun h289 => ?_)
                                                    · have g290 := zeq h289
                                                      have e291 := zt_0
                                                      refine zk_ite (fun h292 => ?_) (fun h292 => ?_)
                                                      · have g293 := zeq h292
                                                        exact zk_some rfl
                                                      · have g294 := zne h292
                                                        exact zk_some rfl
                                                    · have g295 := zne h289
                                                      have e296 := zt_0
                                                      exact zk_some rfl

