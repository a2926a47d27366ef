/-! WORDS of the law's methods: their own, and their callees' whole -/
def gdW (ws : List Cond) : Prop := ∀ w ∈ ws, goodWord w = true
theorem gdW.of {ws : List Cond} (h : ws.all goodWord = true) : gdW ws := fun w hw => List.all_eq_true.mp h w hw
theorem gdW.app {a b : List Cond} (ha : gdW a) (hb : gdW b) : gdW (a ++ b) := fun w h => (List.mem_append.mp h).elim (ha w) (hb w)
theorem gdW.cons {c : Cond} {b : List Cond} (ha : goodWord c = true) (hb : gdW b) : gdW (c :: b) := fun w h => (List.mem_cons.mp h).elim (fun e => e ▸ ha) (hb w)
theorem gdW_in {big ws : List Cond} (hg : gdW ws) (hs : ∀ w ∈ ws, w ∈ big) : GoodIn big ws := fun w h => ⟨hs w h, good_of_word (hg w h)⟩
set_option maxRecDepth 100000 in
theorem gw_wsL_call : gdW wsL_call := gdW.of (by decide +kernel)
set_option maxRecDepth 100000 in
theorem gw_wsL_tryRun : gdW wsL_tryRun := gdW.of (by decide +kernel)
set_option maxRecDepth 100000 in
theorem gw_wsL_tryScript : gdW wsL_tryScript := gdW.of (by decide +kernel)
set_option maxRecDepth 100000 in
theorem gw_wsL_trySimulate : gdW wsL_trySimulate := gdW.of (by decide +kernel)
set_option maxRecDepth 100000 in
theorem gw_wsX5_whyNot : gdW wsX5_whyNot := gdW.of (by decide +kernel)
set_option maxRecDepth 100000 in
theorem gw_wsX5_standing : gdW wsX5_standing := gdW.of (by decide +kernel)
set_option maxRecDepth 100000 in
theorem gw_wsX5_errorPosition : gdW wsX5_errorPosition := gdW.of (by decide +kernel)
def wA_worth : List Cond := .code yL_worth cL_worth 1 (some .int) :: (([] : List Cond))
theorem gw_wA_worth : gdW wA_worth := gdW.cons (by decide +kernel) (gdW.of (by decide +kernel))
def wA_cell : List Cond := .code yL_cell cL_cell 2 (some .int) :: (([Cond.constant RL 151 (15518033), Cond.constant RL 152 (2147483647)] : List Cond))
theorem gw_wA_cell : gdW wA_cell := gdW.cons (by decide +kernel) (gdW.of (by decide +kernel))
def wA_about : List Cond := .code yL_about cL_about 2 (some .int) :: (([] : List Cond) ++ (va_wsS RL 153 yL_call wsL_call))
theorem gd_S_yL_call_153 : gdW (va_wsS RL 153 yL_call wsL_call) := gdW.app (gdW.of (by decide +kernel)) gw_wsL_call
theorem gA_about_L_call : GoodIn wA_about (va_wsS RL 153 yL_call wsL_call) := gdW_in gd_S_yL_call_153 (fun w h => List.mem_cons_of_mem _ (List.mem_append_right _ h))
theorem gw_wA_about : gdW wA_about := gdW.cons (by decide +kernel) (gdW.app (gdW.of (by decide +kernel)) gd_S_yL_call_153)
def wA_dog : List Cond := .code yL_dog cL_dog 3 (some .int) :: (([] : List Cond) ++ (va_wsS RL 153 yL_call wsL_call))
theorem gA_dog_L_call : GoodIn wA_dog (va_wsS RL 153 yL_call wsL_call) := gdW_in gd_S_yL_call_153 (fun w h => List.mem_cons_of_mem _ (List.mem_append_right _ h))
theorem gw_wA_dog : gdW wA_dog := gdW.cons (by decide +kernel) (gdW.app (gdW.of (by decide +kernel)) gd_S_yL_call_153)
def wA_points : List Cond := .code yL_points cL_points 4 (some .long) :: (([Cond.constantLong RL 163 (100)] : List Cond) ++ (va_wsS RL 165 yL_worth wA_worth))
theorem gd_S_yL_worth_165 : gdW (va_wsS RL 165 yL_worth wA_worth) := gdW.app (gdW.of (by decide +kernel)) gw_wA_worth
theorem gA_points_L_worth : GoodIn wA_points (va_wsS RL 165 yL_worth wA_worth) := gdW_in gd_S_yL_worth_165 (fun w h => List.mem_cons_of_mem _ (List.mem_append_right _ h))
theorem gw_wA_points : gdW wA_points := gdW.cons (by decide +kernel) (gdW.app (gdW.of (by decide +kernel)) gd_S_yL_worth_165)
def wA_sum : List Cond := .code yL_sum cL_sum 5 (some .long) :: (([Cond.constantLong RL 157 (131)] : List Cond) ++ (va_wsS RL 159 yL_about wA_about ++ (va_wsS RL 161 yL_dog wA_dog ++ (va_wsS RL 153 yL_call wsL_call))))
theorem gd_S_yL_about_159 : gdW (va_wsS RL 159 yL_about wA_about) := gdW.app (gdW.of (by decide +kernel)) gw_wA_about
theorem gA_sum_L_about : GoodIn wA_sum (va_wsS RL 159 yL_about wA_about) := gdW_in gd_S_yL_about_159 (fun w h => List.mem_cons_of_mem _ (List.mem_append_right _ (List.mem_append_left _ h)))
theorem gd_S_yL_dog_161 : gdW (va_wsS RL 161 yL_dog wA_dog) := gdW.app (gdW.of (by decide +kernel)) gw_wA_dog
theorem gA_sum_L_dog : GoodIn wA_sum (va_wsS RL 161 yL_dog wA_dog) := gdW_in gd_S_yL_dog_161 (fun w h => List.mem_cons_of_mem _ (List.mem_append_right _ (List.mem_append_right _ (List.mem_append_left _ h))))
theorem gA_sum_L_call : GoodIn wA_sum (va_wsS RL 153 yL_call wsL_call) := gdW_in gd_S_yL_call_153 (fun w h => List.mem_cons_of_mem _ (List.mem_append_right _ (List.mem_append_right _ (List.mem_append_right _ h))))
theorem gw_wA_sum : gdW wA_sum := gdW.cons (by decide +kernel) (gdW.app (gdW.of (by decide +kernel)) (gdW.app gd_S_yL_about_159 (gdW.app gd_S_yL_dog_161 gd_S_yL_call_153)))
def wA_scores : List Cond := .code yL_scores cL_scores 8 (some .boolean) :: (([] : List Cond) ++ (va_wsS RL 159 yL_about wA_about ++ (va_wsS RL 161 yL_dog wA_dog ++ (va_wsS RL 153 yL_call wsL_call ++ (va_wsS RL 165 yL_worth wA_worth)))))
theorem gA_scores_L_about : GoodIn wA_scores (va_wsS RL 159 yL_about wA_about) := gdW_in gd_S_yL_about_159 (fun w h => List.mem_cons_of_mem _ (List.mem_append_right _ (List.mem_append_left _ h)))
theorem gA_scores_L_dog : GoodIn wA_scores (va_wsS RL 161 yL_dog wA_dog) := gdW_in gd_S_yL_dog_161 (fun w h => List.mem_cons_of_mem _ (List.mem_append_right _ (List.mem_append_right _ (List.mem_append_left _ h))))
theorem gA_scores_L_call : GoodIn wA_scores (va_wsS RL 153 yL_call wsL_call) := gdW_in gd_S_yL_call_153 (fun w h => List.mem_cons_of_mem _ (List.mem_append_right _ (List.mem_append_right _ (List.mem_append_right _ (List.mem_append_left _ h)))))
theorem gA_scores_L_worth : GoodIn wA_scores (va_wsS RL 165 yL_worth wA_worth) := gdW_in gd_S_yL_worth_165 (fun w h => List.mem_cons_of_mem _ (List.mem_append_right _ (List.mem_append_right _ (List.mem_append_right _ (List.mem_append_right _ h)))))
theorem gw_wA_scores : gdW wA_scores := gdW.cons (by decide +kernel) (gdW.app (gdW.of (by decide +kernel)) (gdW.app gd_S_yL_about_159 (gdW.app gd_S_yL_dog_161 (gdW.app gd_S_yL_call_153 gd_S_yL_worth_165))))
def wA_order : List Cond := .code yL_order cL_order 12 (some .boolean) :: (([Cond.constant RL 15 (-9999002)] : List Cond) ++ (va_wsS RL 159 yL_about wA_about ++ (va_wsS RL 153 yL_call wsL_call ++ (va_wsS RL 161 yL_dog wA_dog))))
theorem gA_order_L_about : GoodIn wA_order (va_wsS RL 159 yL_about wA_about) := gdW_in gd_S_yL_about_159 (fun w h => List.mem_cons_of_mem _ (List.mem_append_right _ (List.mem_append_left _ h)))
theorem gA_order_L_call : GoodIn wA_order (va_wsS RL 153 yL_call wsL_call) := gdW_in gd_S_yL_call_153 (fun w h => List.mem_cons_of_mem _ (List.mem_append_right _ (List.mem_append_right _ (List.mem_append_left _ h))))
theorem gA_order_L_dog : GoodIn wA_order (va_wsS RL 161 yL_dog wA_dog) := gdW_in gd_S_yL_dog_161 (fun w h => List.mem_cons_of_mem _ (List.mem_append_right _ (List.mem_append_right _ (List.mem_append_right _ h))))
theorem gw_wA_order : gdW wA_order := gdW.cons (by decide +kernel) (gdW.app (gdW.of (by decide +kernel)) (gdW.app gd_S_yL_about_159 (gdW.app gd_S_yL_call_153 gd_S_yL_dog_161)))
def wA_places : List Cond := .code yL_places cL_places 7 (some .boolean) :: (([] : List Cond) ++ (va_wsS RL 159 yL_about wA_about ++ (wsV RL 168 RX5 yX5_standing wsX5_standing ++ (va_wsS RL 161 yL_dog wA_dog))))
theorem gA_places_L_about : GoodIn wA_places (va_wsS RL 159 yL_about wA_about) := gdW_in gd_S_yL_about_159 (fun w h => List.mem_cons_of_mem _ (List.mem_append_right _ (List.mem_append_left _ h)))
theorem gd_V_yX5_standing_168 : gdW (wsV RL 168 RX5 yX5_standing wsX5_standing) := gdW.app (gdW.of (by decide +kernel)) gw_wsX5_standing
theorem gA_places_X5_standing : GoodIn wA_places (wsV RL 168 RX5 yX5_standing wsX5_standing) := gdW_in gd_V_yX5_standing_168 (fun w h => List.mem_cons_of_mem _ (List.mem_append_right _ (List.mem_append_right _ (List.mem_append_left _ h))))
theorem gA_places_L_dog : GoodIn wA_places (va_wsS RL 161 yL_dog wA_dog) := gdW_in gd_S_yL_dog_161 (fun w h => List.mem_cons_of_mem _ (List.mem_append_right _ (List.mem_append_right _ (List.mem_append_right _ h))))
theorem gw_wA_places : gdW wA_places := gdW.cons (by decide +kernel) (gdW.app (gdW.of (by decide +kernel)) (gdW.app gd_S_yL_about_159 (gdW.app gd_V_yX5_standing_168 gd_S_yL_dog_161)))
def wA_tries : List Cond := .code yL_tries cL_tries 15 (some .boolean) :: (([Cond.constant RL 18 (-9999003), Cond.constantLong RL 163 (100)] : List Cond) ++ (va_wsS RL 171 yL_sum wA_sum ++ (wsV RL 175 RX5 yX5_whyNot wsX5_whyNot ++ (va_wsS RL 159 yL_about wA_about ++ (va_wsS RL 178 yL_tryRun wsL_tryRun ++ (va_wsS RL 153 yL_call wsL_call ++ (va_wsS RL 161 yL_dog wA_dog ++ (va_wsS RL 165 yL_worth wA_worth))))))))
theorem gd_S_yL_sum_171 : gdW (va_wsS RL 171 yL_sum wA_sum) := gdW.app (gdW.of (by decide +kernel)) gw_wA_sum
theorem gA_tries_L_sum : GoodIn wA_tries (va_wsS RL 171 yL_sum wA_sum) := gdW_in gd_S_yL_sum_171 (fun w h => List.mem_cons_of_mem _ (List.mem_append_right _ (List.mem_append_left _ h)))
theorem gd_V_yX5_whyNot_175 : gdW (wsV RL 175 RX5 yX5_whyNot wsX5_whyNot) := gdW.app (gdW.of (by decide +kernel)) gw_wsX5_whyNot
theorem gA_tries_X5_whyNot : GoodIn wA_tries (wsV RL 175 RX5 yX5_whyNot wsX5_whyNot) := gdW_in gd_V_yX5_whyNot_175 (fun w h => List.mem_cons_of_mem _ (List.mem_append_right _ (List.mem_append_right _ (List.mem_append_left _ h))))
theorem gA_tries_L_about : GoodIn wA_tries (va_wsS RL 159 yL_about wA_about) := gdW_in gd_S_yL_about_159 (fun w h => List.mem_cons_of_mem _ (List.mem_append_right _ (List.mem_append_right _ (List.mem_append_right _ (List.mem_append_left _ h)))))
theorem gd_S_yL_tryRun_178 : gdW (va_wsS RL 178 yL_tryRun wsL_tryRun) := gdW.app (gdW.of (by decide +kernel)) gw_wsL_tryRun
theorem gA_tries_L_tryRun : GoodIn wA_tries (va_wsS RL 178 yL_tryRun wsL_tryRun) := gdW_in gd_S_yL_tryRun_178 (fun w h => List.mem_cons_of_mem _ (List.mem_append_right _ (List.mem_append_right _ (List.mem_append_right _ (List.mem_append_right _ (List.mem_append_left _ h))))))
theorem gA_tries_L_call : GoodIn wA_tries (va_wsS RL 153 yL_call wsL_call) := gdW_in gd_S_yL_call_153 (fun w h => List.mem_cons_of_mem _ (List.mem_append_right _ (List.mem_append_right _ (List.mem_append_right _ (List.mem_append_right _ (List.mem_append_right _ (List.mem_append_left _ h)))))))
theorem gA_tries_L_dog : GoodIn wA_tries (va_wsS RL 161 yL_dog wA_dog) := gdW_in gd_S_yL_dog_161 (fun w h => List.mem_cons_of_mem _ (List.mem_append_right _ (List.mem_append_right _ (List.mem_append_right _ (List.mem_append_right _ (List.mem_append_right _ (List.mem_append_right _ (List.mem_append_left _ h))))))))
theorem gA_tries_L_worth : GoodIn wA_tries (va_wsS RL 165 yL_worth wA_worth) := gdW_in gd_S_yL_worth_165 (fun w h => List.mem_cons_of_mem _ (List.mem_append_right _ (List.mem_append_right _ (List.mem_append_right _ (List.mem_append_right _ (List.mem_append_right _ (List.mem_append_right _ (List.mem_append_right _ h))))))))
theorem gw_wA_tries : gdW wA_tries := gdW.cons (by decide +kernel) (gdW.app (gdW.of (by decide +kernel)) (gdW.app gd_S_yL_sum_171 (gdW.app gd_V_yX5_whyNot_175 (gdW.app gd_S_yL_about_159 (gdW.app gd_S_yL_tryRun_178 (gdW.app gd_S_yL_call_153 (gdW.app gd_S_yL_dog_161 gd_S_yL_worth_165)))))))
def wA_runs : List Cond := .code yL_runs cL_runs 10 (some .boolean) :: (([] : List Cond) ++ (va_wsS RL 171 yL_sum wA_sum ++ (va_wsS RL 153 yL_call wsL_call ++ (va_wsS RL 159 yL_about wA_about ++ (wsV RL 175 RX5 yX5_whyNot wsX5_whyNot ++ (va_wsS RL 178 yL_tryRun wsL_tryRun))))))
theorem gA_runs_L_sum : GoodIn wA_runs (va_wsS RL 171 yL_sum wA_sum) := gdW_in gd_S_yL_sum_171 (fun w h => List.mem_cons_of_mem _ (List.mem_append_right _ (List.mem_append_left _ h)))
theorem gA_runs_L_call : GoodIn wA_runs (va_wsS RL 153 yL_call wsL_call) := gdW_in gd_S_yL_call_153 (fun w h => List.mem_cons_of_mem _ (List.mem_append_right _ (List.mem_append_right _ (List.mem_append_left _ h))))
theorem gA_runs_L_about : GoodIn wA_runs (va_wsS RL 159 yL_about wA_about) := gdW_in gd_S_yL_about_159 (fun w h => List.mem_cons_of_mem _ (List.mem_append_right _ (List.mem_append_right _ (List.mem_append_right _ (List.mem_append_left _ h)))))
theorem gA_runs_X5_whyNot : GoodIn wA_runs (wsV RL 175 RX5 yX5_whyNot wsX5_whyNot) := gdW_in gd_V_yX5_whyNot_175 (fun w h => List.mem_cons_of_mem _ (List.mem_append_right _ (List.mem_append_right _ (List.mem_append_right _ (List.mem_append_right _ (List.mem_append_left _ h))))))
theorem gA_runs_L_tryRun : GoodIn wA_runs (va_wsS RL 178 yL_tryRun wsL_tryRun) := gdW_in gd_S_yL_tryRun_178 (fun w h => List.mem_cons_of_mem _ (List.mem_append_right _ (List.mem_append_right _ (List.mem_append_right _ (List.mem_append_right _ (List.mem_append_right _ h))))))
theorem gw_wA_runs : gdW wA_runs := gdW.cons (by decide +kernel) (gdW.app (gdW.of (by decide +kernel)) (gdW.app gd_S_yL_sum_171 (gdW.app gd_S_yL_call_153 (gdW.app gd_S_yL_about_159 (gdW.app gd_V_yX5_whyNot_175 gd_S_yL_tryRun_178)))))
def wA_scripts : List Cond := .code yL_scripts cL_scripts 6 (some .boolean) :: (([Cond.constantLong RL 182 (8000), Cond.constantLong RL 188 (9000), Cond.constantLong RL 190 (7000), Cond.constantLong RL 192 (10000), Cond.constantLong RL 194 (6000), Cond.constantLong RL 163 (100), Cond.constantLong RL 196 (3000), Cond.constantLong RL 198 (2000), Cond.constantLong RL 200 (4000)] : List Cond) ++ (va_wsS RL 159 yL_about wA_about ++ (va_wsS RL 184 yL_tryScript wsL_tryScript ++ (wsV RL 175 RX5 yX5_whyNot wsX5_whyNot ++ (va_wsS RL 161 yL_dog wA_dog)))))
theorem gA_scripts_L_about : GoodIn wA_scripts (va_wsS RL 159 yL_about wA_about) := gdW_in gd_S_yL_about_159 (fun w h => List.mem_cons_of_mem _ (List.mem_append_right _ (List.mem_append_left _ h)))
theorem gd_S_yL_tryScript_184 : gdW (va_wsS RL 184 yL_tryScript wsL_tryScript) := gdW.app (gdW.of (by decide +kernel)) gw_wsL_tryScript
theorem gA_scripts_L_tryScript : GoodIn wA_scripts (va_wsS RL 184 yL_tryScript wsL_tryScript) := gdW_in gd_S_yL_tryScript_184 (fun w h => List.mem_cons_of_mem _ (List.mem_append_right _ (List.mem_append_right _ (List.mem_append_left _ h))))
theorem gA_scripts_X5_whyNot : GoodIn wA_scripts (wsV RL 175 RX5 yX5_whyNot wsX5_whyNot) := gdW_in gd_V_yX5_whyNot_175 (fun w h => List.mem_cons_of_mem _ (List.mem_append_right _ (List.mem_append_right _ (List.mem_append_right _ (List.mem_append_left _ h)))))
theorem gA_scripts_L_dog : GoodIn wA_scripts (va_wsS RL 161 yL_dog wA_dog) := gdW_in gd_S_yL_dog_161 (fun w h => List.mem_cons_of_mem _ (List.mem_append_right _ (List.mem_append_right _ (List.mem_append_right _ (List.mem_append_right _ h)))))
theorem gw_wA_scripts : gdW wA_scripts := gdW.cons (by decide +kernel) (gdW.app (gdW.of (by decide +kernel)) (gdW.app gd_S_yL_about_159 (gdW.app gd_S_yL_tryScript_184 (gdW.app gd_V_yX5_whyNot_175 gd_S_yL_dog_161))))
def wA_fails : List Cond := .code yL_fails cL_fails 4 (some .boolean) :: (([Cond.constant RL 15 (-9999002), Cond.constant RL 43 (-9999001), Cond.constant RL 202 (112345), Cond.constantLong RL 203 (11), Cond.constantLong RL 205 (310000), Cond.constantLong RL 207 (-1), Cond.constantLong RL 209 (1000000000000), Cond.constant RL 18 (-9999003), Cond.constantLong RL 192 (10000)] : List Cond) ++ (va_wsS RL 159 yL_about wA_about ++ (va_wsS RL 153 yL_call wsL_call ++ (va_wsS RL 178 yL_tryRun wsL_tryRun ++ (va_wsS RL 161 yL_dog wA_dog ++ (va_wsS RL 184 yL_tryScript wsL_tryScript ++ (va_wsS RL 211 yL_trySimulate wsL_trySimulate)))))))
theorem gA_fails_L_about : GoodIn wA_fails (va_wsS RL 159 yL_about wA_about) := gdW_in gd_S_yL_about_159 (fun w h => List.mem_cons_of_mem _ (List.mem_append_right _ (List.mem_append_left _ h)))
theorem gA_fails_L_call : GoodIn wA_fails (va_wsS RL 153 yL_call wsL_call) := gdW_in gd_S_yL_call_153 (fun w h => List.mem_cons_of_mem _ (List.mem_append_right _ (List.mem_append_right _ (List.mem_append_left _ h))))
theorem gA_fails_L_tryRun : GoodIn wA_fails (va_wsS RL 178 yL_tryRun wsL_tryRun) := gdW_in gd_S_yL_tryRun_178 (fun w h => List.mem_cons_of_mem _ (List.mem_append_right _ (List.mem_append_right _ (List.mem_append_right _ (List.mem_append_left _ h)))))
theorem gA_fails_L_dog : GoodIn wA_fails (va_wsS RL 161 yL_dog wA_dog) := gdW_in gd_S_yL_dog_161 (fun w h => List.mem_cons_of_mem _ (List.mem_append_right _ (List.mem_append_right _ (List.mem_append_right _ (List.mem_append_right _ (List.mem_append_left _ h))))))
theorem gA_fails_L_tryScript : GoodIn wA_fails (va_wsS RL 184 yL_tryScript wsL_tryScript) := gdW_in gd_S_yL_tryScript_184 (fun w h => List.mem_cons_of_mem _ (List.mem_append_right _ (List.mem_append_right _ (List.mem_append_right _ (List.mem_append_right _ (List.mem_append_right _ (List.mem_append_left _ h)))))))
theorem gd_S_yL_trySimulate_211 : gdW (va_wsS RL 211 yL_trySimulate wsL_trySimulate) := gdW.app (gdW.of (by decide +kernel)) gw_wsL_trySimulate
theorem gA_fails_L_trySimulate : GoodIn wA_fails (va_wsS RL 211 yL_trySimulate wsL_trySimulate) := gdW_in gd_S_yL_trySimulate_211 (fun w h => List.mem_cons_of_mem _ (List.mem_append_right _ (List.mem_append_right _ (List.mem_append_right _ (List.mem_append_right _ (List.mem_append_right _ (List.mem_append_right _ h)))))))
theorem gw_wA_fails : gdW wA_fails := gdW.cons (by decide +kernel) (gdW.app (gdW.of (by decide +kernel)) (gdW.app gd_S_yL_about_159 (gdW.app gd_S_yL_call_153 (gdW.app gd_S_yL_tryRun_178 (gdW.app gd_S_yL_dog_161 (gdW.app gd_S_yL_tryScript_184 gd_S_yL_trySimulate_211))))))
def wA_act : List Cond := .code yL_act cL_act 4 (some .int) :: (([Cond.constant RL 214 (342015)] : List Cond) ++ (va_wsS RL 159 yL_about wA_about ++ (va_wsS RL 153 yL_call wsL_call ++ (va_wsS RL 215 yL_points wA_points ++ (va_wsS RL 178 yL_tryRun wsL_tryRun)))))
theorem gA_act_L_about : GoodIn wA_act (va_wsS RL 159 yL_about wA_about) := gdW_in gd_S_yL_about_159 (fun w h => List.mem_cons_of_mem _ (List.mem_append_right _ (List.mem_append_left _ h)))
theorem gA_act_L_call : GoodIn wA_act (va_wsS RL 153 yL_call wsL_call) := gdW_in gd_S_yL_call_153 (fun w h => List.mem_cons_of_mem _ (List.mem_append_right _ (List.mem_append_right _ (List.mem_append_left _ h))))
theorem gd_S_yL_points_215 : gdW (va_wsS RL 215 yL_points wA_points) := gdW.app (gdW.of (by decide +kernel)) gw_wA_points
theorem gA_act_L_points : GoodIn wA_act (va_wsS RL 215 yL_points wA_points) := gdW_in gd_S_yL_points_215 (fun w h => List.mem_cons_of_mem _ (List.mem_append_right _ (List.mem_append_right _ (List.mem_append_right _ (List.mem_append_left _ h)))))
theorem gA_act_L_tryRun : GoodIn wA_act (va_wsS RL 178 yL_tryRun wsL_tryRun) := gdW_in gd_S_yL_tryRun_178 (fun w h => List.mem_cons_of_mem _ (List.mem_append_right _ (List.mem_append_right _ (List.mem_append_right _ (List.mem_append_right _ h)))))
theorem gw_wA_act : gdW wA_act := gdW.cons (by decide +kernel) (gdW.app (gdW.of (by decide +kernel)) (gdW.app gd_S_yL_about_159 (gdW.app gd_S_yL_call_153 (gdW.app gd_S_yL_points_215 gd_S_yL_tryRun_178))))
def wA_begin : List Cond := .code yL_begin cL_begin 5 (some .boolean) :: (([] : List Cond) ++ (va_wsS RL 153 yL_call wsL_call ++ (wsV RL 219 RX5 yX5_errorPosition wsX5_errorPosition)))
theorem gA_begin_L_call : GoodIn wA_begin (va_wsS RL 153 yL_call wsL_call) := gdW_in gd_S_yL_call_153 (fun w h => List.mem_cons_of_mem _ (List.mem_append_right _ (List.mem_append_left _ h)))
theorem gd_V_yX5_errorPosition_219 : gdW (wsV RL 219 RX5 yX5_errorPosition wsX5_errorPosition) := gdW.app (gdW.of (by decide +kernel)) gw_wsX5_errorPosition
theorem gA_begin_X5_errorPosition : GoodIn wA_begin (wsV RL 219 RX5 yX5_errorPosition wsX5_errorPosition) := gdW_in gd_V_yX5_errorPosition_219 (fun w h => List.mem_cons_of_mem _ (List.mem_append_right _ (List.mem_append_right _ h)))
theorem gw_wA_begin : gdW wA_begin := gdW.cons (by decide +kernel) (gdW.app (gdW.of (by decide +kernel)) (gdW.app gd_S_yL_call_153 gd_V_yX5_errorPosition_219))
