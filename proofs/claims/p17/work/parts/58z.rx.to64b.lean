section
theorem bDn {c : rf} (h : ¬ c.1 = 12) (h2 : c.1 < 50) : bD c = false := by
  cases hb : bD c with
  | false => rfl
  | true =>
    exfalso
    unfold bD at hb
    simp at hb
    omega
theorem bDy {c : rf} (h : c.1 = 12 ∨ 50 ≤ c.1) : bD c = true := by unfold bD; simp; omega
theorem mgC_self {S : rf → Nat → Prop} {M M1 : mM} (h : FR S M M1) (hs : ∀ c k, S c k → bD c = false) : mgC M1 M = M1 := by
  refine Prod.ext (funext fun c => funext fun k => ?_) rfl
  show (bif bD c then M.1 c k else M1.1 c k) = _
  cases hb : bD c with
  | false => rfl
  | true => exact (h c k (fun q => by rw [hs c k q] at hb; cases hb)).symm
theorem mgC_same {M : mM} : mgC M M = M := by
  refine Prod.ext (funext fun c => funext fun k => ?_) rfl
  show (bif bD c then M.1 c k else M.1 c k) = _
  cases bD c <;> rfl
theorem mgD_self {S : rf → Nat → Prop} {M M1 : mM} (h : FR S M M1) (hs : ∀ c k, S c k → bD c = true) : (mgD M1 M).1 = M1.1 := by
  refine funext fun c => funext fun k => ?_
  show (bif bD c then M1.1 c k else M.1 c k) = _
  cases hb : bD c with
  | true => rfl
  | false => exact (h c k (fun q => by rw [hs c k q] at hb; cases hb)).symm
theorem SC_X11_thing : ∀ c k, S_c_X11_thing c k → bD c = false := fun c k h => by simp only [S_c_X11_thing, or_false] at h; exact bDn (by omega) (by omega)
theorem SD_X12_thing_ : ∀ c k, S_c_X12_thing_ c k → bD c = true := fun c k h => by simp only [S_c_X12_thing_, or_false] at h; exact bDy (by omega)
theorem SC_X11_thingIs : ∀ c k, S_c_X11_thingIs c k → bD c = false := fun c k h => by simp only [S_c_X11_thingIs, or_false] at h; exact bDn (by omega) (by omega)
theorem SD_X12_thingIs : ∀ c k, S_c_X12_thingIs c k → bD c = true := fun c k h => by simp only [S_c_X12_thingIs, or_false] at h; exact bDy (by omega)
theorem SC_X11_moves : ∀ c k, S_c_X11_moves c k → bD c = false := fun c k h => by simp only [S_c_X11_moves, or_false] at h; exact bDn (by omega) (by omega)
theorem SD_X12_moves : ∀ c k, S_c_X12_moves c k → bD c = true := fun c k h => by simp only [S_c_X12_moves, or_false] at h; exact bDy (by omega)
theorem SC_X11_away : ∀ c k, S_c_X11_away c k → bD c = false := fun c k h => by simp only [S_c_X11_away, or_false] at h; exact bDn (by omega) (by omega)
theorem SD_X12_away : ∀ c k, S_c_X12_away c k → bD c = true := fun c k h => by simp only [S_c_X12_away, or_false] at h; exact bDy (by omega)
theorem SC_X11_kind : ∀ c k, S_c_X11_kind c k → bD c = false := fun c k h => by simp only [S_c_X11_kind, or_false] at h; exact bDn (by omega) (by omega)
theorem SD_X12_kind : ∀ c k, S_c_X12_kind c k → bD c = true := fun c k h => by simp only [S_c_X12_kind, or_false] at h; exact bDy (by omega)
theorem SC_X11_at : ∀ c k, S_c_X11_at c k → bD c = false := fun c k h => by simp only [S_c_X11_at, or_false] at h; exact bDn (by omega) (by omega)
theorem SD_X12_at : ∀ c k, S_c_X12_at c k → bD c = true := fun c k h => by simp only [S_c_X12_at, or_false] at h; exact bDy (by omega)
theorem SC_X11_lays : ∀ c k, S_c_X11_lays c k → bD c = false := fun c k h => by simp only [S_c_X11_lays, or_false] at h; exact bDn (by omega) (by omega)
theorem SD_X12_lays : ∀ c k, S_c_X12_lays c k → bD c = true := fun c k h => by simp only [S_c_X12_lays, or_false] at h; exact bDy (by omega)
theorem SC_X11_air : ∀ c k, S_c_X11_air c k → bD c = false := fun c k h => by simp only [S_c_X11_air, or_false] at h; exact bDn (by omega) (by omega)
theorem SD_X12_air : ∀ c k, S_c_X12_air c k → bD c = true := fun c k h => by simp only [S_c_X12_air, or_false] at h; exact bDy (by omega)
theorem SC_X11_walker : ∀ c k, S_c_X11_walker c k → bD c = false := fun c k h => by simp only [S_c_X11_walker, or_false] at h; exact bDn (by omega) (by omega)
theorem SD_X12_walker : ∀ c k, S_c_X12_walker c k → bD c = true := fun c k h => by simp only [S_c_X12_walker, or_false] at h; exact bDy (by omega)
theorem SC_X11_walkerIs : ∀ c k, S_c_X11_walkerIs c k → bD c = false := fun c k h => by simp only [S_c_X11_walkerIs, or_false] at h; exact bDn (by omega) (by omega)
theorem SD_X12_walkerIs : ∀ c k, S_c_X12_walkerIs c k → bD c = true := fun c k h => by simp only [S_c_X12_walkerIs, or_false] at h; exact bDy (by omega)
theorem SC_X11_as : ∀ c k, S_c_X11_as c k → bD c = false := fun c k h => by simp only [S_c_X11_as, or_false] at h; exact bDn (by omega) (by omega)
theorem SD_X12_as : ∀ c k, S_c_X12_as c k → bD c = true := fun c k h => by simp only [S_c_X12_as, or_false] at h; exact bDy (by omega)
theorem SC_X11_habit : ∀ c k, S_c_X11_habit c k → bD c = false := fun c k h => by simp only [S_c_X11_habit, or_false] at h; exact bDn (by omega) (by omega)
theorem SD_X12_habit : ∀ c k, S_c_X12_habit c k → bD c = true := fun c k h => by simp only [S_c_X12_habit, or_false] at h; exact bDy (by omega)
theorem SC_X11_face : ∀ c k, S_c_X11_face c k → bD c = false := fun c k h => by simp only [S_c_X11_face, or_false] at h; exact bDn (by omega) (by omega)
theorem SD_X12_face : ∀ c k, S_c_X12_face c k → bD c = true := fun c k h => by simp only [S_c_X12_face, or_false] at h; exact bDy (by omega)
theorem SC_X11_goes : ∀ c k, S_c_X11_goes c k → bD c = false := fun c k h => by simp only [S_c_X11_goes, or_false] at h; exact bDn (by omega) (by omega)
theorem SD_X12_goes : ∀ c k, S_c_X12_goes c k → bD c = true := fun c k h => by simp only [S_c_X12_goes, or_false] at h; exact bDy (by omega)
theorem SC_X11_feed : ∀ c k, S_c_X11_feed c k → bD c = false := fun c k h => by simp only [S_c_X11_feed, or_false] at h; exact bDn (by omega) (by omega)
theorem SD_X12_feed : ∀ c k, S_c_X12_feed c k → bD c = true := fun c k h => by simp only [S_c_X12_feed, or_false] at h; exact bDy (by omega)
theorem SC_X11_text : ∀ c k, S_c_X11_text c k → bD c = false := fun c k h => by simp only [S_c_X11_text, or_false] at h; exact bDn (by omega) (by omega)
theorem SD_X12_text_ : ∀ c k, S_c_X12_text_ c k → bD c = true := fun c k h => by simp only [S_c_X12_text_, or_false] at h; exact bDy (by omega)
theorem SC_X11_echo : ∀ c k, S_c_X11_echo c k → bD c = false := fun c k h => by simp only [S_c_X11_echo, or_false] at h; exact bDn (by omega) (by omega)
theorem SD_X12_echo : ∀ c k, S_c_X12_echo c k → bD c = true := fun c k h => by simp only [S_c_X12_echo, or_false] at h; exact bDy (by omega)
theorem SC_X11_click : ∀ c k, S_c_X11_click c k → bD c = false := fun c k h => by simp only [S_c_X11_click, or_false] at h; exact bDn (by omega) (by omega)
theorem SD_X12_click : ∀ c k, S_c_X12_click c k → bD c = true := fun c k h => by simp only [S_c_X12_click, or_false] at h; exact bDy (by omega)
theorem SC_X11_head : ∀ c k, S_c_X11_head c k → bD c = false := fun c k h => by simp only [S_c_X11_head, or_false] at h; exact bDn (by omega) (by omega)
theorem SD_X12_head : ∀ c k, S_c_X12_head c k → bD c = true := fun c k h => by simp only [S_c_X12_head, or_false] at h; exact bDy (by omega)
theorem SC_X11_heads : ∀ c k, S_c_X11_heads c k → bD c = false := fun c k h => by simp only [S_c_X11_heads, or_false] at h; exact bDn (by omega) (by omega)
theorem SD_X12_heads : ∀ c k, S_c_X12_heads c k → bD c = true := fun c k h => by simp only [S_c_X12_heads, or_false] at h; exact bDy (by omega)
theorem SC_X11_alike : ∀ c k, S_c_X11_alike c k → bD c = false := fun c k h => by simp only [S_c_X11_alike, or_false] at h; exact bDn (by omega) (by omega)
theorem SD_X12_alike : ∀ c k, S_c_X12_alike c k → bD c = true := fun c k h => by simp only [S_c_X12_alike, or_false] at h; exact bDy (by omega)
theorem SC_X11_least : ∀ c k, S_c_X11_least c k → bD c = false := fun c k h => by simp only [S_c_X11_least, or_false] at h; exact bDn (by omega) (by omega)
theorem SD_X12_least : ∀ c k, S_c_X12_least c k → bD c = true := fun c k h => by simp only [S_c_X12_least, or_false] at h; exact bDy (by omega)
theorem SC_X11_farthest : ∀ c k, S_c_X11_farthest c k → bD c = false := fun c k h => by simp only [S_c_X11_farthest, or_false] at h; exact bDn (by omega) (by omega)
theorem SD_X12_farthest : ∀ c k, S_c_X12_farthest c k → bD c = true := fun c k h => by simp only [S_c_X12_farthest, or_false] at h; exact bDy (by omega)
theorem SC_X11_spots : ∀ c k, S_c_X11_spots c k → bD c = false := fun c k h => by simp only [S_c_X11_spots, or_false] at h; exact bDn (by omega) (by omega)
theorem SD_X12_spots : ∀ c k, S_c_X12_spots c k → bD c = true := fun c k h => by simp only [S_c_X12_spots, or_false] at h; exact bDy (by omega)
theorem SC_X11_tenths : ∀ c k, S_c_X11_tenths c k → bD c = false := fun c k h => by simp only [S_c_X11_tenths, or_false] at h; exact bDn (by omega) (by omega)
theorem SD_X12_tenths : ∀ c k, S_c_X12_tenths c k → bD c = true := fun c k h => by simp only [S_c_X12_tenths, or_false] at h; exact bDy (by omega)
theorem SC_X11_way : ∀ c k, S_c_X11_way c k → bD c = false := fun c k h => by simp only [S_c_X11_way, or_false] at h; exact bDn (by omega) (by omega)
theorem SD_X12_way : ∀ c k, S_c_X12_way c k → bD c = true := fun c k h => by simp only [S_c_X12_way, or_false] at h; exact bDy (by omega)
theorem SC_X11_safe : ∀ c k, S_c_X11_safe c k → bD c = false := fun c k h => by simp only [S_c_X11_safe, or_false] at h; exact bDn (by omega) (by omega)
theorem SD_X12_safe : ∀ c k, S_c_X12_safe c k → bD c = true := fun c k h => by simp only [S_c_X12_safe, or_false] at h; exact bDy (by omega)
theorem SC_X11_lesson : ∀ c k, S_c_X11_lesson c k → bD c = false := fun c k h => by simp only [S_c_X11_lesson, or_false] at h; exact bDn (by omega) (by omega)
theorem SD_X12_lesson : ∀ c k, S_c_X12_lesson c k → bD c = true := fun c k h => by simp only [S_c_X12_lesson, or_false] at h; exact bDy (by omega)
theorem SC_X11_learn : ∀ c k, S_c_X11_learn c k → bD c = false := fun c k h => by simp only [S_c_X11_learn, or_false] at h; exact bDn (by omega) (by omega)
theorem SD_X12_learn : ∀ c k, S_c_X12_learn c k → bD c = true := fun c k h => by simp only [S_c_X12_learn, or_false] at h; exact bDy (by omega)
theorem SC_X11_posts : ∀ c k, S_c_X11_posts c k → bD c = false := fun c k h => by simp only [S_c_X11_posts, or_false] at h; exact bDn (by omega) (by omega)
theorem SD_X12_posts : ∀ c k, S_c_X12_posts c k → bD c = true := fun c k h => by simp only [S_c_X12_posts, or_false] at h; exact bDy (by omega)
theorem SC_X11_voice : ∀ c k, S_c_X11_voice c k → bD c = false := fun c k h => by simp only [S_c_X11_voice, or_false] at h; exact bDn (by omega) (by omega)
theorem SD_X12_voice : ∀ c k, S_c_X12_voice c k → bD c = true := fun c k h => by simp only [S_c_X12_voice, or_false] at h; exact bDy (by omega)
theorem SC_X11_trace : ∀ c k, S_c_X11_trace c k → bD c = false := fun c k h => by simp only [S_c_X11_trace, or_false] at h; exact bDn (by omega) (by omega)
theorem SD_X12_trace : ∀ c k, S_c_X12_trace c k → bD c = true := fun c k h => by simp only [S_c_X12_trace, or_false] at h; exact bDy (by omega)
theorem SC_X11_sheet : ∀ c k, S_c_X11_sheet c k → bD c = false := fun c k h => by simp only [S_c_X11_sheet, or_false] at h; exact bDn (by omega) (by omega)
theorem SD_X12_sheet : ∀ c k, S_c_X12_sheet c k → bD c = true := fun c k h => by simp only [S_c_X12_sheet, or_false] at h; exact bDy (by omega)
theorem SC_X11_put : ∀ c k, S_c_X11_put c k → bD c = false := fun c k h => by simp only [S_c_X11_put, or_false] at h; exact bDn (by omega) (by omega)
theorem SD_X12_put : ∀ c k, S_c_X12_put c k → bD c = true := fun c k h => by simp only [S_c_X12_put, or_false] at h; exact bDy (by omega)
theorem SC_X11_move : ∀ c k, S_c_X11_move c k → bD c = false := fun c k h => by simp only [S_c_X11_move, or_false] at h; exact bDn (by omega) (by omega)
theorem SD_X12_move : ∀ c k, S_c_X12_move c k → bD c = true := fun c k h => by simp only [S_c_X12_move, or_false] at h; exact bDy (by omega)
theorem SC_X11_image : ∀ c k, S_c_X11_image c k → bD c = false := fun c k h => by simp only [S_c_X11_image, or_false] at h; exact bDn (by omega) (by omega)
theorem SD_X12_image : ∀ c k, S_c_X12_image c k → bD c = true := fun c k h => by simp only [S_c_X12_image, or_false] at h; exact bDy (by omega)
theorem SC_X11_restore : ∀ c k, S_c_X11_restore c k → bD c = false := fun c k h => by simp only [S_c_X11_restore, or_false] at h; exact bDn (by omega) (by omega)
theorem SD_X12_restore : ∀ c k, S_c_X12_restore c k → bD c = true := fun c k h => by simp only [S_c_X12_restore, or_false] at h; exact bDy (by omega)
theorem SC_X11_tell : ∀ c k, S_c_X11_tell c k → bD c = false := fun c k h => by simp only [S_c_X11_tell, or_false] at h; exact bDn (by omega) (by omega)
theorem SD_X12_tell : ∀ c k, S_c_X12_tell c k → bD c = true := fun c k h => by simp only [S_c_X12_tell, or_false] at h; exact bDy (by omega)
theorem SC_X11_check : ∀ c k, S_c_X11_check c k → bD c = false := fun c k h => by simp only [S_c_X11_check, or_false] at h; exact bDn (by omega) (by omega)
theorem SD_X12_check : ∀ c k, S_c_X12_check c k → bD c = true := fun c k h => by simp only [S_c_X12_check, or_false] at h; exact bDy (by omega)
theorem SC_X11_count : ∀ c k, S_c_X11_count c k → bD c = false := fun c k h => by simp only [S_c_X11_count, or_false] at h; exact bDn (by omega) (by omega)
theorem SD_X12_count : ∀ c k, S_c_X12_count c k → bD c = true := fun c k h => by simp only [S_c_X12_count, or_false] at h; exact bDy (by omega)
theorem SC_X11_told : ∀ c k, S_c_X11_told c k → bD c = false := fun c k h => by simp only [S_c_X11_told, or_false] at h; exact bDn (by omega) (by omega)
theorem SD_X12_told : ∀ c k, S_c_X12_told c k → bD c = true := fun c k h => by simp only [S_c_X12_told, or_false] at h; exact bDy (by omega)
end
section
/-! words of the tables that are used, by their places; decode rows; fields -/
set_option maxRecDepth 20000 in
theorem m_487 : Cond.methodLink RL 13 yX11_thing ∈ BASE := bmT2 169 rfl rfl
set_option maxRecDepth 20000 in
theorem m_488 : Cond.instanceMethod yX11_thing ∈ BASE := bmT2 170 rfl rfl
set_option maxRecDepth 20000 in
theorem m_489 : Cond.selects yX11_thing.cls yX11_thing yX11_thing ∈ BASE := bmT2 171 rfl rfl
set_option maxRecDepth 20000 in
theorem m_490 : Cond.code yX11_thing cX11_thing 3 (some .int) ∈ BASE := bmT2 172 rfl rfl
set_option maxRecDepth 20000 in
theorem m_522 : Cond.methodLink RL 18 yX11_thingIs ∈ BASE := bmT2 204 rfl rfl
set_option maxRecDepth 20000 in
theorem m_523 : Cond.instanceMethod yX11_thingIs ∈ BASE := bmT2 205 rfl rfl
set_option maxRecDepth 20000 in
theorem m_524 : Cond.selects yX11_thingIs.cls yX11_thingIs yX11_thingIs ∈ BASE := bmT2 206 rfl rfl
set_option maxRecDepth 20000 in
theorem m_525 : Cond.code yX11_thingIs cX11_thingIs 3 (some .int) ∈ BASE := bmT2 207 rfl rfl
set_option maxRecDepth 20000 in
theorem m_535 : Cond.methodLink RL 22 yX11_moves ∈ BASE := bmT2 217 rfl rfl
set_option maxRecDepth 20000 in
theorem m_536 : Cond.instanceMethod yX11_moves ∈ BASE := bmT2 218 rfl rfl
set_option maxRecDepth 20000 in
theorem m_537 : Cond.selects yX11_moves.cls yX11_moves yX11_moves ∈ BASE := bmT2 219 rfl rfl
set_option maxRecDepth 20000 in
theorem m_538 : Cond.code yX11_moves cX11_moves 5 (some .int) ∈ BASE := bmT2 220 rfl rfl
set_option maxRecDepth 20000 in
theorem m_542 : Cond.methodLink RL 27 yX11_away ∈ BASE := bmT2 224 rfl rfl
set_option maxRecDepth 20000 in
theorem m_543 : Cond.instanceMethod yX11_away ∈ BASE := bmT2 225 rfl rfl
set_option maxRecDepth 20000 in
theorem m_544 : Cond.selects yX11_away.cls yX11_away yX11_away ∈ BASE := bmT2 226 rfl rfl
set_option maxRecDepth 20000 in
theorem m_545 : Cond.code yX11_away cX11_away 2 (some .int) ∈ BASE := bmT2 227 rfl rfl
set_option maxRecDepth 20000 in
theorem m_550 : Cond.methodLink RL 32 yX11_kind ∈ BASE := bmT2 232 rfl rfl
set_option maxRecDepth 20000 in
theorem m_551 : Cond.instanceMethod yX11_kind ∈ BASE := bmT2 233 rfl rfl
set_option maxRecDepth 20000 in
theorem m_552 : Cond.selects yX11_kind.cls yX11_kind yX11_kind ∈ BASE := bmT2 234 rfl rfl
set_option maxRecDepth 20000 in
theorem m_553 : Cond.code yX11_kind cX11_kind 4 (some .int) ∈ BASE := bmT2 235 rfl rfl
set_option maxRecDepth 20000 in
theorem m_558 : Cond.methodLink RL 36 yX11_at ∈ BASE := bmT3 0 rfl rfl
set_option maxRecDepth 20000 in
theorem m_559 : Cond.instanceMethod yX11_at ∈ BASE := bmT3 1 rfl rfl
set_option maxRecDepth 20000 in
theorem m_560 : Cond.selects yX11_at.cls yX11_at yX11_at ∈ BASE := bmT3 2 rfl rfl
set_option maxRecDepth 20000 in
theorem m_561 : Cond.code yX11_at cX11_at 2 (some .int) ∈ BASE := bmT3 3 rfl rfl
set_option maxRecDepth 20000 in
theorem m_562 : Cond.methodLink RL 40 yX11_lays ∈ BASE := bmT3 4 rfl rfl
set_option maxRecDepth 20000 in
theorem m_563 : Cond.instanceMethod yX11_lays ∈ BASE := bmT3 5 rfl rfl
set_option maxRecDepth 20000 in
theorem m_564 : Cond.selects yX11_lays.cls yX11_lays yX11_lays ∈ BASE := bmT3 6 rfl rfl
set_option maxRecDepth 20000 in
theorem m_565 : Cond.code yX11_lays cX11_lays 8 (some .int) ∈ BASE := bmT3 7 rfl rfl
set_option maxRecDepth 20000 in
theorem m_581 : Cond.methodLink RL 44 yX11_air ∈ BASE := bmT3 23 rfl rfl
set_option maxRecDepth 20000 in
theorem m_582 : Cond.instanceMethod yX11_air ∈ BASE := bmT3 24 rfl rfl
set_option maxRecDepth 20000 in
theorem m_583 : Cond.selects yX11_air.cls yX11_air yX11_air ∈ BASE := bmT3 25 rfl rfl
set_option maxRecDepth 20000 in
theorem m_584 : Cond.code yX11_air cX11_air 3 (some .int) ∈ BASE := bmT3 26 rfl rfl
set_option maxRecDepth 20000 in
theorem m_589 : Cond.methodLink RL 48 yX11_walker ∈ BASE := bmT3 31 rfl rfl
set_option maxRecDepth 20000 in
theorem m_590 : Cond.instanceMethod yX11_walker ∈ BASE := bmT3 32 rfl rfl
set_option maxRecDepth 20000 in
theorem m_591 : Cond.selects yX11_walker.cls yX11_walker yX11_walker ∈ BASE := bmT3 33 rfl rfl
set_option maxRecDepth 20000 in
theorem m_592 : Cond.code yX11_walker cX11_walker 4 (some .int) ∈ BASE := bmT3 34 rfl rfl
set_option maxRecDepth 20000 in
theorem m_605 : Cond.methodLink RL 52 yX11_walkerIs ∈ BASE := bmT3 47 rfl rfl
set_option maxRecDepth 20000 in
theorem m_606 : Cond.instanceMethod yX11_walkerIs ∈ BASE := bmT3 48 rfl rfl
set_option maxRecDepth 20000 in
theorem m_607 : Cond.selects yX11_walkerIs.cls yX11_walkerIs yX11_walkerIs ∈ BASE := bmT3 49 rfl rfl
set_option maxRecDepth 20000 in
theorem m_608 : Cond.code yX11_walkerIs cX11_walkerIs 3 (some .int) ∈ BASE := bmT3 50 rfl rfl
set_option maxRecDepth 20000 in
theorem m_635 : Cond.methodLink RL 56 yX11_as ∈ BASE := bmT3 77 rfl rfl
set_option maxRecDepth 20000 in
theorem m_636 : Cond.instanceMethod yX11_as ∈ BASE := bmT3 78 rfl rfl
set_option maxRecDepth 20000 in
theorem m_637 : Cond.selects yX11_as.cls yX11_as yX11_as ∈ BASE := bmT3 79 rfl rfl
set_option maxRecDepth 20000 in
theorem m_638 : Cond.code yX11_as cX11_as 3 (some .int) ∈ BASE := bmT3 80 rfl rfl
set_option maxRecDepth 20000 in
theorem m_649 : Cond.methodLink RL 60 yX11_habit ∈ BASE := bmT3 91 rfl rfl
set_option maxRecDepth 20000 in
theorem m_650 : Cond.instanceMethod yX11_habit ∈ BASE := bmT3 92 rfl rfl
set_option maxRecDepth 20000 in
theorem m_651 : Cond.selects yX11_habit.cls yX11_habit yX11_habit ∈ BASE := bmT3 93 rfl rfl
set_option maxRecDepth 20000 in
theorem m_652 : Cond.code yX11_habit cX11_habit 6 (some .int) ∈ BASE := bmT3 94 rfl rfl
set_option maxRecDepth 20000 in
theorem m_657 : Cond.methodLink RL 65 yX11_face ∈ BASE := bmT3 99 rfl rfl
set_option maxRecDepth 20000 in
theorem m_658 : Cond.instanceMethod yX11_face ∈ BASE := bmT3 100 rfl rfl
set_option maxRecDepth 20000 in
theorem m_659 : Cond.selects yX11_face.cls yX11_face yX11_face ∈ BASE := bmT3 101 rfl rfl
set_option maxRecDepth 20000 in
theorem m_660 : Cond.code yX11_face cX11_face 4 (some .int) ∈ BASE := bmT3 102 rfl rfl
set_option maxRecDepth 20000 in
theorem m_661 : Cond.methodLink RL 69 yX11_goes ∈ BASE := bmT3 103 rfl rfl
set_option maxRecDepth 20000 in
theorem m_662 : Cond.instanceMethod yX11_goes ∈ BASE := bmT3 104 rfl rfl
set_option maxRecDepth 20000 in
theorem m_663 : Cond.selects yX11_goes.cls yX11_goes yX11_goes ∈ BASE := bmT3 105 rfl rfl
set_option maxRecDepth 20000 in
theorem m_664 : Cond.code yX11_goes cX11_goes 4 (some .int) ∈ BASE := bmT3 106 rfl rfl
set_option maxRecDepth 20000 in
theorem m_665 : Cond.methodLink RL 76 yX11_feed ∈ BASE := bmT3 107 rfl rfl
set_option maxRecDepth 20000 in
theorem m_666 : Cond.instanceMethod yX11_feed ∈ BASE := bmT3 108 rfl rfl
set_option maxRecDepth 20000 in
theorem m_667 : Cond.selects yX11_feed.cls yX11_feed yX11_feed ∈ BASE := bmT3 109 rfl rfl
set_option maxRecDepth 20000 in
theorem m_668 : Cond.code yX11_feed cX11_feed 5 (some .int) ∈ BASE := bmT3 110 rfl rfl
set_option maxRecDepth 20000 in
theorem m_677 : Cond.methodLink RL 81 yX11_text ∈ BASE := bmT3 119 rfl rfl
set_option maxRecDepth 20000 in
theorem m_678 : Cond.instanceMethod yX11_text ∈ BASE := bmT3 120 rfl rfl
set_option maxRecDepth 20000 in
theorem m_679 : Cond.selects yX11_text.cls yX11_text yX11_text ∈ BASE := bmT3 121 rfl rfl
set_option maxRecDepth 20000 in
theorem m_680 : Cond.code yX11_text cX11_text 3 (some .int) ∈ BASE := bmT3 122 rfl rfl
set_option maxRecDepth 20000 in
theorem m_835 : Cond.methodLink RL 85 yX11_echo ∈ BASE := bmT4 37 rfl rfl
set_option maxRecDepth 20000 in
theorem m_836 : Cond.instanceMethod yX11_echo ∈ BASE := bmT4 38 rfl rfl
set_option maxRecDepth 20000 in
theorem m_837 : Cond.selects yX11_echo.cls yX11_echo yX11_echo ∈ BASE := bmT4 39 rfl rfl
set_option maxRecDepth 20000 in
theorem m_838 : Cond.code yX11_echo cX11_echo 5 (some .int) ∈ BASE := bmT4 40 rfl rfl
set_option maxRecDepth 20000 in
theorem m_892 : Cond.methodLink RL 89 yX11_click ∈ BASE := bmT4 94 rfl rfl
set_option maxRecDepth 20000 in
theorem m_893 : Cond.instanceMethod yX11_click ∈ BASE := bmT4 95 rfl rfl
set_option maxRecDepth 20000 in
theorem m_894 : Cond.selects yX11_click.cls yX11_click yX11_click ∈ BASE := bmT4 96 rfl rfl
set_option maxRecDepth 20000 in
theorem m_895 : Cond.code yX11_click cX11_click 2 (some .int) ∈ BASE := bmT4 97 rfl rfl
set_option maxRecDepth 20000 in
theorem m_925 : Cond.methodLink RL 93 yX11_head ∈ BASE := bmT4 127 rfl rfl
set_option maxRecDepth 20000 in
theorem m_926 : Cond.instanceMethod yX11_head ∈ BASE := bmT4 128 rfl rfl
set_option maxRecDepth 20000 in
theorem m_927 : Cond.selects yX11_head.cls yX11_head yX11_head ∈ BASE := bmT4 129 rfl rfl
set_option maxRecDepth 20000 in
theorem m_928 : Cond.code yX11_head cX11_head 5 (some .int) ∈ BASE := bmT4 130 rfl rfl
set_option maxRecDepth 20000 in
theorem m_933 : Cond.methodLink RL 97 yX11_heads ∈ BASE := bmT4 135 rfl rfl
set_option maxRecDepth 20000 in
theorem m_934 : Cond.instanceMethod yX11_heads ∈ BASE := bmT4 136 rfl rfl
set_option maxRecDepth 20000 in
theorem m_935 : Cond.selects yX11_heads.cls yX11_heads yX11_heads ∈ BASE := bmT4 137 rfl rfl
set_option maxRecDepth 20000 in
theorem m_936 : Cond.code yX11_heads cX11_heads 3 (some .int) ∈ BASE := bmT4 138 rfl rfl
set_option maxRecDepth 20000 in
theorem m_947 : Cond.methodLink RL 101 yX11_alike ∈ BASE := bmT4 149 rfl rfl
set_option maxRecDepth 20000 in
theorem m_948 : Cond.instanceMethod yX11_alike ∈ BASE := bmT4 150 rfl rfl
set_option maxRecDepth 20000 in
theorem m_949 : Cond.selects yX11_alike.cls yX11_alike yX11_alike ∈ BASE := bmT4 151 rfl rfl
set_option maxRecDepth 20000 in
theorem m_950 : Cond.code yX11_alike cX11_alike 7 (some .int) ∈ BASE := bmT4 152 rfl rfl
set_option maxRecDepth 20000 in
theorem m_957 : Cond.methodLink RL 106 yX11_least ∈ BASE := bmT4 159 rfl rfl
set_option maxRecDepth 20000 in
theorem m_958 : Cond.instanceMethod yX11_least ∈ BASE := bmT4 160 rfl rfl
set_option maxRecDepth 20000 in
theorem m_959 : Cond.selects yX11_least.cls yX11_least yX11_least ∈ BASE := bmT4 161 rfl rfl
set_option maxRecDepth 20000 in
theorem m_960 : Cond.code yX11_least cX11_least 7 (some .int) ∈ BASE := bmT4 162 rfl rfl
set_option maxRecDepth 20000 in
theorem m_969 : Cond.methodLink RL 110 yX11_farthest ∈ BASE := bmT4 171 rfl rfl
set_option maxRecDepth 20000 in
theorem m_970 : Cond.instanceMethod yX11_farthest ∈ BASE := bmT4 172 rfl rfl
set_option maxRecDepth 20000 in
theorem m_971 : Cond.selects yX11_farthest.cls yX11_farthest yX11_farthest ∈ BASE := bmT4 173 rfl rfl
set_option maxRecDepth 20000 in
theorem m_972 : Cond.code yX11_farthest cX11_farthest 6 (some .int) ∈ BASE := bmT4 174 rfl rfl
set_option maxRecDepth 20000 in
theorem m_974 : Cond.methodLink RL 114 yX11_spots ∈ BASE := bmT4 176 rfl rfl
set_option maxRecDepth 20000 in
theorem m_975 : Cond.instanceMethod yX11_spots ∈ BASE := bmT4 177 rfl rfl
set_option maxRecDepth 20000 in
theorem m_976 : Cond.selects yX11_spots.cls yX11_spots yX11_spots ∈ BASE := bmT4 178 rfl rfl
set_option maxRecDepth 20000 in
theorem m_977 : Cond.code yX11_spots cX11_spots 5 (some .int) ∈ BASE := bmT4 179 rfl rfl
set_option maxRecDepth 20000 in
theorem m_1021 : Cond.methodLink RL 118 yX11_tenths ∈ BASE := bmT4 223 rfl rfl
set_option maxRecDepth 20000 in
theorem m_1022 : Cond.instanceMethod yX11_tenths ∈ BASE := bmT4 224 rfl rfl
set_option maxRecDepth 20000 in
theorem m_1023 : Cond.selects yX11_tenths.cls yX11_tenths yX11_tenths ∈ BASE := bmT4 225 rfl rfl
set_option maxRecDepth 20000 in
theorem m_1024 : Cond.code yX11_tenths cX11_tenths 3 (some .int) ∈ BASE := bmT4 226 rfl rfl
set_option maxRecDepth 20000 in
theorem m_1067 : Cond.methodLink RL 122 yX11_way ∈ BASE := bmT5 29 rfl rfl
set_option maxRecDepth 20000 in
theorem m_1068 : Cond.instanceMethod yX11_way ∈ BASE := bmT5 30 rfl rfl
set_option maxRecDepth 20000 in
theorem m_1069 : Cond.selects yX11_way.cls yX11_way yX11_way ∈ BASE := bmT5 31 rfl rfl
set_option maxRecDepth 20000 in
theorem m_1070 : Cond.code yX11_way cX11_way 6 (some .int) ∈ BASE := bmT5 32 rfl rfl
set_option maxRecDepth 20000 in
theorem m_1098 : Cond.methodLink RL 126 yX11_safe ∈ BASE := bmT5 60 rfl rfl
set_option maxRecDepth 20000 in
theorem m_1099 : Cond.instanceMethod yX11_safe ∈ BASE := bmT5 61 rfl rfl
set_option maxRecDepth 20000 in
theorem m_1100 : Cond.selects yX11_safe.cls yX11_safe yX11_safe ∈ BASE := bmT5 62 rfl rfl
set_option maxRecDepth 20000 in
theorem m_1101 : Cond.code yX11_safe cX11_safe 4 (some .int) ∈ BASE := bmT5 63 rfl rfl
set_option maxRecDepth 20000 in
theorem m_1110 : Cond.methodLink RL 130 yX11_lesson ∈ BASE := bmT5 72 rfl rfl
set_option maxRecDepth 20000 in
theorem m_1111 : Cond.instanceMethod yX11_lesson ∈ BASE := bmT5 73 rfl rfl
set_option maxRecDepth 20000 in
theorem m_1112 : Cond.selects yX11_lesson.cls yX11_lesson yX11_lesson ∈ BASE := bmT5 74 rfl rfl
set_option maxRecDepth 20000 in
theorem m_1113 : Cond.code yX11_lesson cX11_lesson 4 (some .int) ∈ BASE := bmT5 75 rfl rfl
set_option maxRecDepth 20000 in
theorem m_1125 : Cond.methodLink RL 134 yX11_learn ∈ BASE := bmT5 87 rfl rfl
set_option maxRecDepth 20000 in
theorem m_1126 : Cond.instanceMethod yX11_learn ∈ BASE := bmT5 88 rfl rfl
set_option maxRecDepth 20000 in
theorem m_1127 : Cond.selects yX11_learn.cls yX11_learn yX11_learn ∈ BASE := bmT5 89 rfl rfl
set_option maxRecDepth 20000 in
theorem m_1128 : Cond.code yX11_learn cX11_learn 5 (some .int) ∈ BASE := bmT5 90 rfl rfl
set_option maxRecDepth 20000 in
theorem m_1155 : Cond.methodLink RL 138 yX11_posts ∈ BASE := bmT5 117 rfl rfl
set_option maxRecDepth 20000 in
theorem m_1156 : Cond.instanceMethod yX11_posts ∈ BASE := bmT5 118 rfl rfl
set_option maxRecDepth 20000 in
theorem m_1157 : Cond.selects yX11_posts.cls yX11_posts yX11_posts ∈ BASE := bmT5 119 rfl rfl
set_option maxRecDepth 20000 in
theorem m_1158 : Cond.code yX11_posts cX11_posts 5 (some .int) ∈ BASE := bmT5 120 rfl rfl
set_option maxRecDepth 20000 in
theorem m_1176 : Cond.methodLink RL 142 yX11_voice ∈ BASE := bmT5 138 rfl rfl
set_option maxRecDepth 20000 in
theorem m_1177 : Cond.instanceMethod yX11_voice ∈ BASE := bmT5 139 rfl rfl
set_option maxRecDepth 20000 in
theorem m_1178 : Cond.selects yX11_voice.cls yX11_voice yX11_voice ∈ BASE := bmT5 140 rfl rfl
set_option maxRecDepth 20000 in
theorem m_1179 : Cond.code yX11_voice cX11_voice 5 (some .int) ∈ BASE := bmT5 141 rfl rfl
set_option maxRecDepth 20000 in
theorem m_1210 : Cond.methodLink RL 146 yX11_trace ∈ BASE := bmT5 172 rfl rfl
set_option maxRecDepth 20000 in
theorem m_1211 : Cond.instanceMethod yX11_trace ∈ BASE := bmT5 173 rfl rfl
set_option maxRecDepth 20000 in
theorem m_1212 : Cond.selects yX11_trace.cls yX11_trace yX11_trace ∈ BASE := bmT5 174 rfl rfl
set_option maxRecDepth 20000 in
theorem m_1213 : Cond.code yX11_trace cX11_trace 2 (some .int) ∈ BASE := bmT5 175 rfl rfl
set_option maxRecDepth 20000 in
theorem m_1218 : Cond.methodLink RL 150 yX11_sheet ∈ BASE := bmT5 180 rfl rfl
set_option maxRecDepth 20000 in
theorem m_1219 : Cond.instanceMethod yX11_sheet ∈ BASE := bmT5 181 rfl rfl
set_option maxRecDepth 20000 in
theorem m_1220 : Cond.selects yX11_sheet.cls yX11_sheet yX11_sheet ∈ BASE := bmT5 182 rfl rfl
set_option maxRecDepth 20000 in
theorem m_1221 : Cond.code yX11_sheet cX11_sheet 4 (some .int) ∈ BASE := bmT5 183 rfl rfl
set_option maxRecDepth 20000 in
theorem m_1232 : Cond.methodLink RL 154 yX11_put ∈ BASE := bmT5 194 rfl rfl
set_option maxRecDepth 20000 in
theorem m_1233 : Cond.instanceMethod yX11_put ∈ BASE := bmT5 195 rfl rfl
set_option maxRecDepth 20000 in
theorem m_1234 : Cond.selects yX11_put.cls yX11_put yX11_put ∈ BASE := bmT5 196 rfl rfl
set_option maxRecDepth 20000 in
theorem m_1235 : Cond.code yX11_put cX11_put 4 (some .int) ∈ BASE := bmT5 197 rfl rfl
set_option maxRecDepth 20000 in
theorem m_1241 : Cond.methodLink RL 158 yX11_move ∈ BASE := bmT5 203 rfl rfl
set_option maxRecDepth 20000 in
theorem m_1242 : Cond.instanceMethod yX11_move ∈ BASE := bmT5 204 rfl rfl
set_option maxRecDepth 20000 in
theorem m_1243 : Cond.selects yX11_move.cls yX11_move yX11_move ∈ BASE := bmT5 205 rfl rfl
set_option maxRecDepth 20000 in
theorem m_1244 : Cond.code yX11_move cX11_move 8 (some .int) ∈ BASE := bmT5 206 rfl rfl
set_option maxRecDepth 20000 in
theorem m_1250 : Cond.methodLink RL 162 yX11_image ∈ BASE := bmT5 212 rfl rfl
set_option maxRecDepth 20000 in
theorem m_1251 : Cond.instanceMethod yX11_image ∈ BASE := bmT5 213 rfl rfl
set_option maxRecDepth 20000 in
theorem m_1252 : Cond.selects yX11_image.cls yX11_image yX11_image ∈ BASE := bmT5 214 rfl rfl
set_option maxRecDepth 20000 in
theorem m_1253 : Cond.code yX11_image cX11_image 1 (some .int) ∈ BASE := bmT5 215 rfl rfl
set_option maxRecDepth 20000 in
theorem m_1280 : Cond.methodLink RL 167 yX11_restore ∈ BASE := bmT6 2 rfl rfl
set_option maxRecDepth 20000 in
theorem m_1281 : Cond.instanceMethod yX11_restore ∈ BASE := bmT6 3 rfl rfl
set_option maxRecDepth 20000 in
theorem m_1282 : Cond.selects yX11_restore.cls yX11_restore yX11_restore ∈ BASE := bmT6 4 rfl rfl
set_option maxRecDepth 20000 in
theorem m_1283 : Cond.code yX11_restore cX11_restore 1 (some .int) ∈ BASE := bmT6 5 rfl rfl
set_option maxRecDepth 20000 in
theorem m_1284 : Cond.methodLink RL 171 yX11_tell ∈ BASE := bmT6 6 rfl rfl
set_option maxRecDepth 20000 in
theorem m_1285 : Cond.instanceMethod yX11_tell ∈ BASE := bmT6 7 rfl rfl
set_option maxRecDepth 20000 in
theorem m_1286 : Cond.selects yX11_tell.cls yX11_tell yX11_tell ∈ BASE := bmT6 8 rfl rfl
set_option maxRecDepth 20000 in
theorem m_1287 : Cond.code yX11_tell cX11_tell 2 (some .int) ∈ BASE := bmT6 9 rfl rfl
set_option maxRecDepth 20000 in
theorem m_1288 : Cond.methodLink RL 175 yX11_check ∈ BASE := bmT6 10 rfl rfl
set_option maxRecDepth 20000 in
theorem m_1289 : Cond.instanceMethod yX11_check ∈ BASE := bmT6 11 rfl rfl
set_option maxRecDepth 20000 in
theorem m_1290 : Cond.selects yX11_check.cls yX11_check yX11_check ∈ BASE := bmT6 12 rfl rfl
set_option maxRecDepth 20000 in
theorem m_1291 : Cond.code yX11_check cX11_check 3 (some .int) ∈ BASE := bmT6 13 rfl rfl
set_option maxRecDepth 20000 in
theorem m_1292 : Cond.methodLink RL 179 yX11_count ∈ BASE := bmT6 14 rfl rfl
set_option maxRecDepth 20000 in
theorem m_1293 : Cond.instanceMethod yX11_count ∈ BASE := bmT6 15 rfl rfl
set_option maxRecDepth 20000 in
theorem m_1294 : Cond.selects yX11_count.cls yX11_count yX11_count ∈ BASE := bmT6 16 rfl rfl
set_option maxRecDepth 20000 in
theorem m_1295 : Cond.code yX11_count cX11_count 2 (some .int) ∈ BASE := bmT6 17 rfl rfl
set_option maxRecDepth 20000 in
theorem m_1308 : Cond.methodLink RL 183 yX11_told ∈ BASE := bmT6 30 rfl rfl
set_option maxRecDepth 20000 in
theorem m_1309 : Cond.instanceMethod yX11_told ∈ BASE := bmT6 31 rfl rfl
set_option maxRecDepth 20000 in
theorem m_1310 : Cond.selects yX11_told.cls yX11_told yX11_told ∈ BASE := bmT6 32 rfl rfl
set_option maxRecDepth 20000 in
theorem m_1311 : Cond.code yX11_told cX11_told 2 (some .int) ∈ BASE := bmT6 33 rfl rfl
set_option maxRecDepth 20000 in
theorem m_1423 : Cond.methodLink RL 17 yX12_thing_ ∈ BASE := bmT6 145 rfl rfl
set_option maxRecDepth 20000 in
theorem m_1424 : Cond.instanceMethod yX12_thing_ ∈ BASE := bmT6 146 rfl rfl
set_option maxRecDepth 20000 in
theorem m_1425 : Cond.selects yX12_thing_.cls yX12_thing_ yX12_thing_ ∈ BASE := bmT6 147 rfl rfl
set_option maxRecDepth 20000 in
theorem m_1426 : Cond.code yX12_thing_ cX12_thing_ 3 (some .int) ∈ BASE := bmT6 148 rfl rfl
set_option maxRecDepth 20000 in
theorem m_1461 : Cond.methodLink RL 21 yX12_thingIs ∈ BASE := bmT6 183 rfl rfl
set_option maxRecDepth 20000 in
theorem m_1462 : Cond.instanceMethod yX12_thingIs ∈ BASE := bmT6 184 rfl rfl
set_option maxRecDepth 20000 in
theorem m_1463 : Cond.selects yX12_thingIs.cls yX12_thingIs yX12_thingIs ∈ BASE := bmT6 185 rfl rfl
set_option maxRecDepth 20000 in
theorem m_1464 : Cond.code yX12_thingIs cX12_thingIs 3 (some .int) ∈ BASE := bmT6 186 rfl rfl
set_option maxRecDepth 20000 in
theorem m_1469 : Cond.methodLink RL 26 yX12_moves ∈ BASE := bmT6 191 rfl rfl
set_option maxRecDepth 20000 in
theorem m_1470 : Cond.instanceMethod yX12_moves ∈ BASE := bmT6 192 rfl rfl
set_option maxRecDepth 20000 in
theorem m_1471 : Cond.selects yX12_moves.cls yX12_moves yX12_moves ∈ BASE := bmT6 193 rfl rfl
set_option maxRecDepth 20000 in
theorem m_1472 : Cond.code yX12_moves cX12_moves 4 (some .int) ∈ BASE := bmT6 194 rfl rfl
set_option maxRecDepth 20000 in
theorem m_1477 : Cond.methodLink RL 31 yX12_away ∈ BASE := bmT6 199 rfl rfl
set_option maxRecDepth 20000 in
theorem m_1478 : Cond.instanceMethod yX12_away ∈ BASE := bmT6 200 rfl rfl
set_option maxRecDepth 20000 in
theorem m_1479 : Cond.selects yX12_away.cls yX12_away yX12_away ∈ BASE := bmT6 201 rfl rfl
set_option maxRecDepth 20000 in
theorem m_1480 : Cond.code yX12_away cX12_away 2 (some .int) ∈ BASE := bmT6 202 rfl rfl
set_option maxRecDepth 20000 in
theorem m_1485 : Cond.methodLink RL 35 yX12_kind ∈ BASE := bmT6 207 rfl rfl
set_option maxRecDepth 20000 in
theorem m_1486 : Cond.instanceMethod yX12_kind ∈ BASE := bmT6 208 rfl rfl
set_option maxRecDepth 20000 in
theorem m_1487 : Cond.selects yX12_kind.cls yX12_kind yX12_kind ∈ BASE := bmT6 209 rfl rfl
set_option maxRecDepth 20000 in
theorem m_1488 : Cond.code yX12_kind cX12_kind 4 (some .int) ∈ BASE := bmT6 210 rfl rfl
set_option maxRecDepth 20000 in
theorem m_1489 : Cond.methodLink RL 39 yX12_at ∈ BASE := bmT6 211 rfl rfl
set_option maxRecDepth 20000 in
theorem m_1490 : Cond.instanceMethod yX12_at ∈ BASE := bmT6 212 rfl rfl
set_option maxRecDepth 20000 in
theorem m_1491 : Cond.selects yX12_at.cls yX12_at yX12_at ∈ BASE := bmT6 213 rfl rfl
set_option maxRecDepth 20000 in
theorem m_1492 : Cond.code yX12_at cX12_at 2 (some .int) ∈ BASE := bmT6 214 rfl rfl
set_option maxRecDepth 20000 in
theorem m_1493 : Cond.methodLink RL 43 yX12_lays ∈ BASE := bmT6 215 rfl rfl
set_option maxRecDepth 20000 in
theorem m_1494 : Cond.instanceMethod yX12_lays ∈ BASE := bmT6 216 rfl rfl
set_option maxRecDepth 20000 in
theorem m_1495 : Cond.selects yX12_lays.cls yX12_lays yX12_lays ∈ BASE := bmT6 217 rfl rfl
set_option maxRecDepth 20000 in
theorem m_1496 : Cond.code yX12_lays cX12_lays 6 (some .int) ∈ BASE := bmT6 218 rfl rfl
set_option maxRecDepth 20000 in
theorem m_1501 : Cond.methodLink RL 47 yX12_air ∈ BASE := bmT6 223 rfl rfl
set_option maxRecDepth 20000 in
theorem m_1502 : Cond.instanceMethod yX12_air ∈ BASE := bmT6 224 rfl rfl
set_option maxRecDepth 20000 in
theorem m_1503 : Cond.selects yX12_air.cls yX12_air yX12_air ∈ BASE := bmT6 225 rfl rfl
set_option maxRecDepth 20000 in
theorem m_1504 : Cond.code yX12_air cX12_air 4 (some .int) ∈ BASE := bmT6 226 rfl rfl
set_option maxRecDepth 20000 in
theorem m_1505 : Cond.methodLink RL 51 yX12_walker ∈ BASE := bmT6 227 rfl rfl
set_option maxRecDepth 20000 in
theorem m_1506 : Cond.instanceMethod yX12_walker ∈ BASE := bmT6 228 rfl rfl
set_option maxRecDepth 20000 in
theorem m_1507 : Cond.selects yX12_walker.cls yX12_walker yX12_walker ∈ BASE := bmT6 229 rfl rfl
set_option maxRecDepth 20000 in
theorem m_1508 : Cond.code yX12_walker cX12_walker 6 (some .int) ∈ BASE := bmT6 230 rfl rfl
set_option maxRecDepth 20000 in
theorem m_1509 : Cond.methodLink RL 55 yX12_walkerIs ∈ BASE := bmT6 231 rfl rfl
set_option maxRecDepth 20000 in
theorem m_1510 : Cond.instanceMethod yX12_walkerIs ∈ BASE := bmT6 232 rfl rfl
set_option maxRecDepth 20000 in
theorem m_1511 : Cond.selects yX12_walkerIs.cls yX12_walkerIs yX12_walkerIs ∈ BASE := bmT6 233 rfl rfl
set_option maxRecDepth 20000 in
theorem m_1512 : Cond.code yX12_walkerIs cX12_walkerIs 3 (some .int) ∈ BASE := bmT6 234 rfl rfl
set_option maxRecDepth 20000 in
theorem m_1528 : Cond.methodLink RL 59 yX12_as ∈ BASE := bmT7 10 rfl rfl
set_option maxRecDepth 20000 in
theorem m_1529 : Cond.instanceMethod yX12_as ∈ BASE := bmT7 11 rfl rfl
set_option maxRecDepth 20000 in
theorem m_1530 : Cond.selects yX12_as.cls yX12_as yX12_as ∈ BASE := bmT7 12 rfl rfl
set_option maxRecDepth 20000 in
theorem m_1531 : Cond.code yX12_as cX12_as 3 (some .int) ∈ BASE := bmT7 13 rfl rfl
set_option maxRecDepth 20000 in
theorem m_1538 : Cond.methodLink RL 64 yX12_habit ∈ BASE := bmT7 20 rfl rfl
set_option maxRecDepth 20000 in
theorem m_1539 : Cond.instanceMethod yX12_habit ∈ BASE := bmT7 21 rfl rfl
set_option maxRecDepth 20000 in
theorem m_1540 : Cond.selects yX12_habit.cls yX12_habit yX12_habit ∈ BASE := bmT7 22 rfl rfl
set_option maxRecDepth 20000 in
theorem m_1541 : Cond.code yX12_habit cX12_habit 5 (some .int) ∈ BASE := bmT7 23 rfl rfl
set_option maxRecDepth 20000 in
theorem m_1542 : Cond.methodLink RL 68 yX12_face ∈ BASE := bmT7 24 rfl rfl
set_option maxRecDepth 20000 in
theorem m_1543 : Cond.instanceMethod yX12_face ∈ BASE := bmT7 25 rfl rfl
set_option maxRecDepth 20000 in
theorem m_1544 : Cond.selects yX12_face.cls yX12_face yX12_face ∈ BASE := bmT7 26 rfl rfl
set_option maxRecDepth 20000 in
theorem m_1545 : Cond.code yX12_face cX12_face 3 (some .int) ∈ BASE := bmT7 27 rfl rfl
set_option maxRecDepth 20000 in
theorem m_1546 : Cond.methodLink RL 73 yX12_goes ∈ BASE := bmT7 28 rfl rfl
set_option maxRecDepth 20000 in
theorem m_1547 : Cond.instanceMethod yX12_goes ∈ BASE := bmT7 29 rfl rfl
set_option maxRecDepth 20000 in
theorem m_1548 : Cond.selects yX12_goes.cls yX12_goes yX12_goes ∈ BASE := bmT7 30 rfl rfl
set_option maxRecDepth 20000 in
theorem m_1549 : Cond.code yX12_goes cX12_goes 3 (some .int) ∈ BASE := bmT7 31 rfl rfl
set_option maxRecDepth 20000 in
theorem m_1550 : Cond.methodLink RL 80 yX12_feed ∈ BASE := bmT7 32 rfl rfl
set_option maxRecDepth 20000 in
theorem m_1551 : Cond.instanceMethod yX12_feed ∈ BASE := bmT7 33 rfl rfl
set_option maxRecDepth 20000 in
theorem m_1552 : Cond.selects yX12_feed.cls yX12_feed yX12_feed ∈ BASE := bmT7 34 rfl rfl
set_option maxRecDepth 20000 in
theorem m_1553 : Cond.code yX12_feed cX12_feed 5 (some .int) ∈ BASE := bmT7 35 rfl rfl
set_option maxRecDepth 20000 in
theorem m_1555 : Cond.methodLink RL 84 yX12_text_ ∈ BASE := bmT7 37 rfl rfl
set_option maxRecDepth 20000 in
theorem m_1556 : Cond.instanceMethod yX12_text_ ∈ BASE := bmT7 38 rfl rfl
set_option maxRecDepth 20000 in
theorem m_1557 : Cond.selects yX12_text_.cls yX12_text_ yX12_text_ ∈ BASE := bmT7 39 rfl rfl
set_option maxRecDepth 20000 in
theorem m_1558 : Cond.code yX12_text_ cX12_text_ 3 (some .int) ∈ BASE := bmT7 40 rfl rfl
set_option maxRecDepth 20000 in
theorem m_1620 : Cond.methodLink RL 88 yX12_echo ∈ BASE := bmT7 102 rfl rfl
set_option maxRecDepth 20000 in
theorem m_1621 : Cond.instanceMethod yX12_echo ∈ BASE := bmT7 103 rfl rfl
set_option maxRecDepth 20000 in
theorem m_1622 : Cond.selects yX12_echo.cls yX12_echo yX12_echo ∈ BASE := bmT7 104 rfl rfl
set_option maxRecDepth 20000 in
theorem m_1623 : Cond.code yX12_echo cX12_echo 10 (some .int) ∈ BASE := bmT7 105 rfl rfl
set_option maxRecDepth 20000 in
theorem m_1667 : Cond.methodLink RL 92 yX12_click ∈ BASE := bmT7 149 rfl rfl
set_option maxRecDepth 20000 in
theorem m_1668 : Cond.instanceMethod yX12_click ∈ BASE := bmT7 150 rfl rfl
set_option maxRecDepth 20000 in
theorem m_1669 : Cond.selects yX12_click.cls yX12_click yX12_click ∈ BASE := bmT7 151 rfl rfl
set_option maxRecDepth 20000 in
theorem m_1670 : Cond.code yX12_click cX12_click 2 (some .int) ∈ BASE := bmT7 152 rfl rfl
set_option maxRecDepth 20000 in
theorem m_1691 : Cond.methodLink RL 96 yX12_head ∈ BASE := bmT7 173 rfl rfl
set_option maxRecDepth 20000 in
theorem m_1692 : Cond.instanceMethod yX12_head ∈ BASE := bmT7 174 rfl rfl
set_option maxRecDepth 20000 in
theorem m_1693 : Cond.selects yX12_head.cls yX12_head yX12_head ∈ BASE := bmT7 175 rfl rfl
set_option maxRecDepth 20000 in
theorem m_1694 : Cond.code yX12_head cX12_head 4 (some .int) ∈ BASE := bmT7 176 rfl rfl
set_option maxRecDepth 20000 in
theorem m_1699 : Cond.methodLink RL 100 yX12_heads ∈ BASE := bmT7 181 rfl rfl
set_option maxRecDepth 20000 in
theorem m_1700 : Cond.instanceMethod yX12_heads ∈ BASE := bmT7 182 rfl rfl
set_option maxRecDepth 20000 in
theorem m_1701 : Cond.selects yX12_heads.cls yX12_heads yX12_heads ∈ BASE := bmT7 183 rfl rfl
set_option maxRecDepth 20000 in
theorem m_1702 : Cond.code yX12_heads cX12_heads 7 (some .int) ∈ BASE := bmT7 184 rfl rfl
set_option maxRecDepth 20000 in
theorem m_1703 : Cond.methodLink RL 105 yX12_alike ∈ BASE := bmT7 185 rfl rfl
set_option maxRecDepth 20000 in
theorem m_1704 : Cond.instanceMethod yX12_alike ∈ BASE := bmT7 186 rfl rfl
set_option maxRecDepth 20000 in
theorem m_1705 : Cond.selects yX12_alike.cls yX12_alike yX12_alike ∈ BASE := bmT7 187 rfl rfl
set_option maxRecDepth 20000 in
theorem m_1706 : Cond.code yX12_alike cX12_alike 9 (some .int) ∈ BASE := bmT7 188 rfl rfl
set_option maxRecDepth 20000 in
theorem m_1707 : Cond.methodLink RL 109 yX12_least ∈ BASE := bmT7 189 rfl rfl
set_option maxRecDepth 20000 in
theorem m_1708 : Cond.instanceMethod yX12_least ∈ BASE := bmT7 190 rfl rfl
set_option maxRecDepth 20000 in
theorem m_1709 : Cond.selects yX12_least.cls yX12_least yX12_least ∈ BASE := bmT7 191 rfl rfl
set_option maxRecDepth 20000 in
theorem m_1710 : Cond.code yX12_least cX12_least 6 (some .int) ∈ BASE := bmT7 192 rfl rfl
set_option maxRecDepth 20000 in
theorem m_1711 : Cond.methodLink RL 113 yX12_farthest ∈ BASE := bmT7 193 rfl rfl
set_option maxRecDepth 20000 in
theorem m_1712 : Cond.instanceMethod yX12_farthest ∈ BASE := bmT7 194 rfl rfl
set_option maxRecDepth 20000 in
theorem m_1713 : Cond.selects yX12_farthest.cls yX12_farthest yX12_farthest ∈ BASE := bmT7 195 rfl rfl
set_option maxRecDepth 20000 in
theorem m_1714 : Cond.code yX12_farthest cX12_farthest 5 (some .int) ∈ BASE := bmT7 196 rfl rfl
set_option maxRecDepth 20000 in
theorem m_1715 : Cond.methodLink RL 117 yX12_spots ∈ BASE := bmT7 197 rfl rfl
set_option maxRecDepth 20000 in
theorem m_1716 : Cond.instanceMethod yX12_spots ∈ BASE := bmT7 198 rfl rfl
set_option maxRecDepth 20000 in
theorem m_1717 : Cond.selects yX12_spots.cls yX12_spots yX12_spots ∈ BASE := bmT7 199 rfl rfl
set_option maxRecDepth 20000 in
theorem m_1718 : Cond.code yX12_spots cX12_spots 9 (some .int) ∈ BASE := bmT7 200 rfl rfl
set_option maxRecDepth 20000 in
theorem m_1734 : Cond.methodLink RL 121 yX12_tenths ∈ BASE := bmT7 216 rfl rfl
set_option maxRecDepth 20000 in
theorem m_1735 : Cond.instanceMethod yX12_tenths ∈ BASE := bmT7 217 rfl rfl
set_option maxRecDepth 20000 in
theorem m_1736 : Cond.selects yX12_tenths.cls yX12_tenths yX12_tenths ∈ BASE := bmT7 218 rfl rfl
set_option maxRecDepth 20000 in
theorem m_1737 : Cond.code yX12_tenths cX12_tenths 3 (some .int) ∈ BASE := bmT7 219 rfl rfl
set_option maxRecDepth 20000 in
theorem m_1762 : Cond.methodLink RL 125 yX12_way ∈ BASE := bmT8 4 rfl rfl
set_option maxRecDepth 20000 in
theorem m_1763 : Cond.instanceMethod yX12_way ∈ BASE := bmT8 5 rfl rfl
set_option maxRecDepth 20000 in
theorem m_1764 : Cond.selects yX12_way.cls yX12_way yX12_way ∈ BASE := bmT8 6 rfl rfl
set_option maxRecDepth 20000 in
theorem m_1765 : Cond.code yX12_way cX12_way 7 (some .int) ∈ BASE := bmT8 7 rfl rfl
set_option maxRecDepth 20000 in
theorem m_1775 : Cond.methodLink RL 129 yX12_safe ∈ BASE := bmT8 17 rfl rfl
set_option maxRecDepth 20000 in
theorem m_1776 : Cond.instanceMethod yX12_safe ∈ BASE := bmT8 18 rfl rfl
set_option maxRecDepth 20000 in
theorem m_1777 : Cond.selects yX12_safe.cls yX12_safe yX12_safe ∈ BASE := bmT8 19 rfl rfl
set_option maxRecDepth 20000 in
theorem m_1778 : Cond.code yX12_safe cX12_safe 7 (some .int) ∈ BASE := bmT8 20 rfl rfl
set_option maxRecDepth 20000 in
theorem m_1779 : Cond.methodLink RL 133 yX12_lesson ∈ BASE := bmT8 21 rfl rfl
set_option maxRecDepth 20000 in
theorem m_1780 : Cond.instanceMethod yX12_lesson ∈ BASE := bmT8 22 rfl rfl
set_option maxRecDepth 20000 in
theorem m_1781 : Cond.selects yX12_lesson.cls yX12_lesson yX12_lesson ∈ BASE := bmT8 23 rfl rfl
set_option maxRecDepth 20000 in
theorem m_1782 : Cond.code yX12_lesson cX12_lesson 5 (some .int) ∈ BASE := bmT8 24 rfl rfl
set_option maxRecDepth 20000 in
theorem m_1783 : Cond.methodLink RL 137 yX12_learn ∈ BASE := bmT8 25 rfl rfl
set_option maxRecDepth 20000 in
theorem m_1784 : Cond.instanceMethod yX12_learn ∈ BASE := bmT8 26 rfl rfl
set_option maxRecDepth 20000 in
theorem m_1785 : Cond.selects yX12_learn.cls yX12_learn yX12_learn ∈ BASE := bmT8 27 rfl rfl
set_option maxRecDepth 20000 in
theorem m_1786 : Cond.code yX12_learn cX12_learn 4 (some .int) ∈ BASE := bmT8 28 rfl rfl
set_option maxRecDepth 20000 in
theorem m_1791 : Cond.methodLink RL 141 yX12_posts ∈ BASE := bmT8 33 rfl rfl
set_option maxRecDepth 20000 in
theorem m_1792 : Cond.instanceMethod yX12_posts ∈ BASE := bmT8 34 rfl rfl
set_option maxRecDepth 20000 in
theorem m_1793 : Cond.selects yX12_posts.cls yX12_posts yX12_posts ∈ BASE := bmT8 35 rfl rfl
set_option maxRecDepth 20000 in
theorem m_1794 : Cond.code yX12_posts cX12_posts 9 (some .int) ∈ BASE := bmT8 36 rfl rfl
set_option maxRecDepth 20000 in
theorem m_1799 : Cond.methodLink RL 145 yX12_voice ∈ BASE := bmT8 41 rfl rfl
set_option maxRecDepth 20000 in
theorem m_1800 : Cond.instanceMethod yX12_voice ∈ BASE := bmT8 42 rfl rfl
set_option maxRecDepth 20000 in
theorem m_1801 : Cond.selects yX12_voice.cls yX12_voice yX12_voice ∈ BASE := bmT8 43 rfl rfl
set_option maxRecDepth 20000 in
theorem m_1802 : Cond.code yX12_voice cX12_voice 5 (some .int) ∈ BASE := bmT8 44 rfl rfl
set_option maxRecDepth 20000 in
theorem m_1823 : Cond.methodLink RL 149 yX12_trace ∈ BASE := bmT8 65 rfl rfl
set_option maxRecDepth 20000 in
theorem m_1824 : Cond.instanceMethod yX12_trace ∈ BASE := bmT8 66 rfl rfl
set_option maxRecDepth 20000 in
theorem m_1825 : Cond.selects yX12_trace.cls yX12_trace yX12_trace ∈ BASE := bmT8 67 rfl rfl
set_option maxRecDepth 20000 in
theorem m_1826 : Cond.code yX12_trace cX12_trace 2 (some .int) ∈ BASE := bmT8 68 rfl rfl
set_option maxRecDepth 20000 in
theorem m_1827 : Cond.methodLink RL 153 yX12_sheet ∈ BASE := bmT8 69 rfl rfl
set_option maxRecDepth 20000 in
theorem m_1828 : Cond.instanceMethod yX12_sheet ∈ BASE := bmT8 70 rfl rfl
set_option maxRecDepth 20000 in
theorem m_1829 : Cond.selects yX12_sheet.cls yX12_sheet yX12_sheet ∈ BASE := bmT8 71 rfl rfl
set_option maxRecDepth 20000 in
theorem m_1830 : Cond.code yX12_sheet cX12_sheet 5 (some .int) ∈ BASE := bmT8 72 rfl rfl
set_option maxRecDepth 20000 in
theorem m_1831 : Cond.methodLink RL 157 yX12_put ∈ BASE := bmT8 73 rfl rfl
set_option maxRecDepth 20000 in
theorem m_1832 : Cond.instanceMethod yX12_put ∈ BASE := bmT8 74 rfl rfl
set_option maxRecDepth 20000 in
theorem m_1833 : Cond.selects yX12_put.cls yX12_put yX12_put ∈ BASE := bmT8 75 rfl rfl
set_option maxRecDepth 20000 in
theorem m_1834 : Cond.code yX12_put cX12_put 4 (some .int) ∈ BASE := bmT8 76 rfl rfl
set_option maxRecDepth 20000 in
theorem m_1835 : Cond.methodLink RL 161 yX12_move ∈ BASE := bmT8 77 rfl rfl
set_option maxRecDepth 20000 in
theorem m_1836 : Cond.instanceMethod yX12_move ∈ BASE := bmT8 78 rfl rfl
set_option maxRecDepth 20000 in
theorem m_1837 : Cond.selects yX12_move.cls yX12_move yX12_move ∈ BASE := bmT8 79 rfl rfl
set_option maxRecDepth 20000 in
theorem m_1838 : Cond.code yX12_move cX12_move 7 (some .int) ∈ BASE := bmT8 80 rfl rfl
set_option maxRecDepth 20000 in
theorem m_1839 : Cond.methodLink RL 166 yX12_image ∈ BASE := bmT8 81 rfl rfl
set_option maxRecDepth 20000 in
theorem m_1840 : Cond.instanceMethod yX12_image ∈ BASE := bmT8 82 rfl rfl
set_option maxRecDepth 20000 in
theorem m_1841 : Cond.selects yX12_image.cls yX12_image yX12_image ∈ BASE := bmT8 83 rfl rfl
set_option maxRecDepth 20000 in
theorem m_1842 : Cond.code yX12_image cX12_image 1 (some .int) ∈ BASE := bmT8 84 rfl rfl
set_option maxRecDepth 20000 in
theorem m_1846 : Cond.methodLink RL 170 yX12_restore ∈ BASE := bmT8 88 rfl rfl
set_option maxRecDepth 20000 in
theorem m_1847 : Cond.instanceMethod yX12_restore ∈ BASE := bmT8 89 rfl rfl
set_option maxRecDepth 20000 in
theorem m_1848 : Cond.selects yX12_restore.cls yX12_restore yX12_restore ∈ BASE := bmT8 90 rfl rfl
set_option maxRecDepth 20000 in
theorem m_1849 : Cond.code yX12_restore cX12_restore 1 (some .int) ∈ BASE := bmT8 91 rfl rfl
set_option maxRecDepth 20000 in
theorem m_1850 : Cond.methodLink RL 174 yX12_tell ∈ BASE := bmT8 92 rfl rfl
set_option maxRecDepth 20000 in
theorem m_1851 : Cond.instanceMethod yX12_tell ∈ BASE := bmT8 93 rfl rfl
set_option maxRecDepth 20000 in
theorem m_1852 : Cond.selects yX12_tell.cls yX12_tell yX12_tell ∈ BASE := bmT8 94 rfl rfl
set_option maxRecDepth 20000 in
theorem m_1853 : Cond.code yX12_tell cX12_tell 2 (some .int) ∈ BASE := bmT8 95 rfl rfl
set_option maxRecDepth 20000 in
theorem m_1854 : Cond.methodLink RL 178 yX12_check ∈ BASE := bmT8 96 rfl rfl
set_option maxRecDepth 20000 in
theorem m_1855 : Cond.instanceMethod yX12_check ∈ BASE := bmT8 97 rfl rfl
set_option maxRecDepth 20000 in
theorem m_1856 : Cond.selects yX12_check.cls yX12_check yX12_check ∈ BASE := bmT8 98 rfl rfl
set_option maxRecDepth 20000 in
theorem m_1857 : Cond.code yX12_check cX12_check 5 (some .int) ∈ BASE := bmT8 99 rfl rfl
set_option maxRecDepth 20000 in
theorem m_1858 : Cond.methodLink RL 182 yX12_count ∈ BASE := bmT8 100 rfl rfl
set_option maxRecDepth 20000 in
theorem m_1859 : Cond.instanceMethod yX12_count ∈ BASE := bmT8 101 rfl rfl
set_option maxRecDepth 20000 in
theorem m_1860 : Cond.selects yX12_count.cls yX12_count yX12_count ∈ BASE := bmT8 102 rfl rfl
set_option maxRecDepth 20000 in
theorem m_1861 : Cond.code yX12_count cX12_count 4 (some .int) ∈ BASE := bmT8 103 rfl rfl
set_option maxRecDepth 20000 in
theorem m_1866 : Cond.methodLink RL 186 yX12_told ∈ BASE := bmT8 108 rfl rfl
set_option maxRecDepth 20000 in
theorem m_1867 : Cond.instanceMethod yX12_told ∈ BASE := bmT8 109 rfl rfl
set_option maxRecDepth 20000 in
theorem m_1868 : Cond.selects yX12_told.cls yX12_told yX12_told ∈ BASE := bmT8 110 rfl rfl
set_option maxRecDepth 20000 in
theorem m_1869 : Cond.code yX12_told cX12_told 2 (some .int) ∈ BASE := bmT8 111 rfl rfl
set_option maxRecDepth 20000 in
theorem m_1870 : Cond.constantLong RL 74 (4294967295) ∈ BASE := bmT8 112 rfl rfl
theorem kV_X11_air : KV yX11_air cX11_air 3 (some .int) 2 := ⟨m_582, m_583, m_79, m_584, nhM_0, nhV_0, pdn_8⟩
theorem kV_X11_alike : KV yX11_alike cX11_alike 7 (some .int) 5 := ⟨m_948, m_949, m_79, m_950, nhM_0, nhV_0, pdn_14⟩
theorem kV_X11_as : KV yX11_as cX11_as 3 (some .int) 2 := ⟨m_636, m_637, m_79, m_638, nhM_0, nhV_0, pdn_8⟩
theorem kV_X11_at : KV yX11_at cX11_at 2 (some .int) 1 := ⟨m_559, m_560, m_79, m_561, nhM_0, nhV_0, pdn_2⟩
theorem kV_X11_away : KV yX11_away cX11_away 2 (some .int) 1 := ⟨m_543, m_544, m_79, m_545, nhM_0, nhV_0, pdn_2⟩
theorem kV_X11_check : KV yX11_check cX11_check 3 (some .int) 1 := ⟨m_1289, m_1290, m_79, m_1291, nhM_0, nhV_0, pdn_2⟩
theorem kV_X11_click : KV yX11_click cX11_click 2 (some .int) 1 := ⟨m_893, m_894, m_79, m_895, nhM_0, nhV_0, pdn_2⟩
theorem kV_X11_count : KV yX11_count cX11_count 2 (some .int) 1 := ⟨m_1293, m_1294, m_79, m_1295, nhM_0, nhV_0, pdn_2⟩
theorem kV_X11_echo : KV yX11_echo cX11_echo 5 (some .int) 4 := ⟨m_836, m_837, m_79, m_838, nhM_0, nhV_0, pdn_25⟩
theorem kV_X11_face : KV yX11_face cX11_face 4 (some .int) 2 := ⟨m_658, m_659, m_79, m_660, nhM_0, nhV_0, pdn_8⟩
theorem kV_X11_farthest : KV yX11_farthest cX11_farthest 6 (some .int) 3 := ⟨m_970, m_971, m_79, m_972, nhM_0, nhV_0, pdn_3⟩
theorem kV_X11_feed : KV yX11_feed cX11_feed 5 (some .int) 2 := ⟨m_666, m_667, m_79, m_668, nhM_0, nhV_0, pdn_43⟩
theorem kV_X11_goes : KV yX11_goes cX11_goes 4 (some .int) 2 := ⟨m_662, m_663, m_79, m_664, nhM_0, nhV_0, pdn_44⟩
theorem kV_X11_habit : KV yX11_habit cX11_habit 6 (some .int) 4 := ⟨m_650, m_651, m_79, m_652, nhM_0, nhV_0, pdn_25⟩
theorem kV_X11_head : KV yX11_head cX11_head 5 (some .int) 3 := ⟨m_926, m_927, m_79, m_928, nhM_0, nhV_0, pdn_3⟩
theorem kV_X11_heads : KV yX11_heads cX11_heads 3 (some .int) 2 := ⟨m_934, m_935, m_79, m_936, nhM_0, nhV_0, pdn_8⟩
theorem kV_X11_image : KV yX11_image cX11_image 1 (some .int) 0 := ⟨m_1251, m_1252, m_79, m_1253, nhM_0, nhV_0, pdn_6⟩
theorem kV_X11_kind : KV yX11_kind cX11_kind 4 (some .int) 3 := ⟨m_551, m_552, m_79, m_553, nhM_0, nhV_0, pdn_3⟩
theorem kV_X11_lays : KV yX11_lays cX11_lays 8 (some .int) 2 := ⟨m_563, m_564, m_79, m_565, nhM_0, nhV_0, pdn_8⟩
theorem kV_X11_learn : KV yX11_learn cX11_learn 5 (some .int) 3 := ⟨m_1126, m_1127, m_79, m_1128, nhM_0, nhV_0, pdn_3⟩
theorem kV_X11_least : KV yX11_least cX11_least 7 (some .int) 4 := ⟨m_958, m_959, m_79, m_960, nhM_0, nhV_0, pdn_25⟩
theorem kV_X11_lesson : KV yX11_lesson cX11_lesson 4 (some .int) 3 := ⟨m_1111, m_1112, m_79, m_1113, nhM_0, nhV_0, pdn_3⟩
theorem kV_X11_move : KV yX11_move cX11_move 8 (some .int) 5 := ⟨m_1242, m_1243, m_79, m_1244, nhM_0, nhV_0, pdn_14⟩
theorem kV_X11_moves : KV yX11_moves cX11_moves 5 (some .int) 3 := ⟨m_536, m_537, m_79, m_538, nhM_0, nhV_0, pdn_3⟩
theorem kV_X11_posts : KV yX11_posts cX11_posts 5 (some .int) 4 := ⟨m_1156, m_1157, m_79, m_1158, nhM_0, nhV_0, pdn_25⟩
theorem kV_X11_put : KV yX11_put cX11_put 4 (some .int) 3 := ⟨m_1233, m_1234, m_79, m_1235, nhM_0, nhV_0, pdn_3⟩
theorem kV_X11_restore : KV yX11_restore cX11_restore 1 (some .int) 0 := ⟨m_1281, m_1282, m_79, m_1283, nhM_0, nhV_0, pdn_6⟩
theorem kV_X11_safe : KV yX11_safe cX11_safe 4 (some .int) 1 := ⟨m_1099, m_1100, m_79, m_1101, nhM_0, nhV_0, pdn_2⟩
theorem kV_X11_sheet : KV yX11_sheet cX11_sheet 4 (some .int) 3 := ⟨m_1219, m_1220, m_79, m_1221, nhM_0, nhV_0, pdn_3⟩
theorem kV_X11_spots : KV yX11_spots cX11_spots 5 (some .int) 4 := ⟨m_975, m_976, m_79, m_977, nhM_0, nhV_0, pdn_25⟩
theorem kV_X11_tell : KV yX11_tell cX11_tell 2 (some .int) 1 := ⟨m_1285, m_1286, m_79, m_1287, nhM_0, nhV_0, pdn_2⟩
theorem kV_X11_tenths : KV yX11_tenths cX11_tenths 3 (some .int) 1 := ⟨m_1022, m_1023, m_79, m_1024, nhM_0, nhV_0, pdn_2⟩
theorem kV_X11_text : KV yX11_text cX11_text 3 (some .int) 1 := ⟨m_678, m_679, m_79, m_680, nhM_0, nhV_0, pdn_2⟩
theorem kV_X11_thing : KV yX11_thing cX11_thing 3 (some .int) 2 := ⟨m_488, m_489, m_79, m_490, nhM_0, nhV_0, pdn_8⟩
theorem kV_X11_thingIs : KV yX11_thingIs cX11_thingIs 3 (some .int) 2 := ⟨m_523, m_524, m_79, m_525, nhM_0, nhV_0, pdn_8⟩
theorem kV_X11_told : KV yX11_told cX11_told 2 (some .int) 1 := ⟨m_1309, m_1310, m_79, m_1311, nhM_0, nhV_0, pdn_2⟩
theorem kV_X11_trace : KV yX11_trace cX11_trace 2 (some .int) 1 := ⟨m_1211, m_1212, m_79, m_1213, nhM_0, nhV_0, pdn_2⟩
theorem kV_X11_voice : KV yX11_voice cX11_voice 5 (some .int) 3 := ⟨m_1177, m_1178, m_79, m_1179, nhM_0, nhV_0, pdn_3⟩
theorem kV_X11_walker : KV yX11_walker cX11_walker 4 (some .int) 3 := ⟨m_590, m_591, m_79, m_592, nhM_0, nhV_0, pdn_3⟩
theorem kV_X11_walkerIs : KV yX11_walkerIs cX11_walkerIs 3 (some .int) 2 := ⟨m_606, m_607, m_79, m_608, nhM_0, nhV_0, pdn_8⟩
theorem kV_X11_way : KV yX11_way cX11_way 6 (some .int) 3 := ⟨m_1068, m_1069, m_79, m_1070, nhM_0, nhV_0, pdn_3⟩
theorem kV_X12_air : KV yX12_air cX12_air 4 (some .int) 2 := ⟨m_1502, m_1503, m_92, m_1504, nhM_17, nhV_17, pdn_8⟩
theorem kV_X12_alike : KV yX12_alike cX12_alike 9 (some .int) 5 := ⟨m_1704, m_1705, m_92, m_1706, nhM_17, nhV_17, pdn_14⟩
theorem kV_X12_as : KV yX12_as cX12_as 3 (some .int) 2 := ⟨m_1529, m_1530, m_92, m_1531, nhM_17, nhV_17, pdn_8⟩
theorem kV_X12_at : KV yX12_at cX12_at 2 (some .int) 1 := ⟨m_1490, m_1491, m_92, m_1492, nhM_17, nhV_17, pdn_2⟩
theorem kV_X12_away : KV yX12_away cX12_away 2 (some .int) 1 := ⟨m_1478, m_1479, m_92, m_1480, nhM_17, nhV_17, pdn_2⟩
theorem kV_X12_check : KV yX12_check cX12_check 5 (some .int) 1 := ⟨m_1855, m_1856, m_92, m_1857, nhM_17, nhV_17, pdn_2⟩
theorem kV_X12_click : KV yX12_click cX12_click 2 (some .int) 1 := ⟨m_1668, m_1669, m_92, m_1670, nhM_17, nhV_17, pdn_2⟩
theorem kV_X12_count : KV yX12_count cX12_count 4 (some .int) 1 := ⟨m_1859, m_1860, m_92, m_1861, nhM_17, nhV_17, pdn_2⟩
theorem kV_X12_echo : KV yX12_echo cX12_echo 10 (some .int) 4 := ⟨m_1621, m_1622, m_92, m_1623, nhM_17, nhV_17, pdn_25⟩
theorem kV_X12_face : KV yX12_face cX12_face 3 (some .int) 2 := ⟨m_1543, m_1544, m_92, m_1545, nhM_17, nhV_17, pdn_8⟩
theorem kV_X12_farthest : KV yX12_farthest cX12_farthest 5 (some .int) 3 := ⟨m_1712, m_1713, m_92, m_1714, nhM_17, nhV_17, pdn_3⟩
theorem kV_X12_feed : KV yX12_feed cX12_feed 5 (some .int) 2 := ⟨m_1551, m_1552, m_92, m_1553, nhM_17, nhV_17, pdn_43⟩
theorem kV_X12_goes : KV yX12_goes cX12_goes 3 (some .int) 2 := ⟨m_1547, m_1548, m_92, m_1549, nhM_17, nhV_17, pdn_44⟩
theorem kV_X12_habit : KV yX12_habit cX12_habit 5 (some .int) 4 := ⟨m_1539, m_1540, m_92, m_1541, nhM_17, nhV_17, pdn_25⟩
theorem kV_X12_head : KV yX12_head cX12_head 4 (some .int) 3 := ⟨m_1692, m_1693, m_92, m_1694, nhM_17, nhV_17, pdn_3⟩
theorem kV_X12_heads : KV yX12_heads cX12_heads 7 (some .int) 2 := ⟨m_1700, m_1701, m_92, m_1702, nhM_17, nhV_17, pdn_8⟩
theorem kV_X12_image : KV yX12_image cX12_image 1 (some .int) 0 := ⟨m_1840, m_1841, m_92, m_1842, nhM_17, nhV_17, pdn_6⟩
theorem kV_X12_kind : KV yX12_kind cX12_kind 4 (some .int) 3 := ⟨m_1486, m_1487, m_92, m_1488, nhM_17, nhV_17, pdn_3⟩
theorem kV_X12_lays : KV yX12_lays cX12_lays 6 (some .int) 2 := ⟨m_1494, m_1495, m_92, m_1496, nhM_17, nhV_17, pdn_8⟩
theorem kV_X12_learn : KV yX12_learn cX12_learn 4 (some .int) 3 := ⟨m_1784, m_1785, m_92, m_1786, nhM_17, nhV_17, pdn_3⟩
theorem kV_X12_least : KV yX12_least cX12_least 6 (some .int) 4 := ⟨m_1708, m_1709, m_92, m_1710, nhM_17, nhV_17, pdn_25⟩
theorem kV_X12_lesson : KV yX12_lesson cX12_lesson 5 (some .int) 3 := ⟨m_1780, m_1781, m_92, m_1782, nhM_17, nhV_17, pdn_3⟩
theorem kV_X12_move : KV yX12_move cX12_move 7 (some .int) 5 := ⟨m_1836, m_1837, m_92, m_1838, nhM_17, nhV_17, pdn_14⟩
theorem kV_X12_moves : KV yX12_moves cX12_moves 4 (some .int) 3 := ⟨m_1470, m_1471, m_92, m_1472, nhM_17, nhV_17, pdn_3⟩
theorem kV_X12_posts : KV yX12_posts cX12_posts 9 (some .int) 4 := ⟨m_1792, m_1793, m_92, m_1794, nhM_17, nhV_17, pdn_25⟩
theorem kV_X12_put : KV yX12_put cX12_put 4 (some .int) 3 := ⟨m_1832, m_1833, m_92, m_1834, nhM_17, nhV_17, pdn_3⟩
theorem kV_X12_restore : KV yX12_restore cX12_restore 1 (some .int) 0 := ⟨m_1847, m_1848, m_92, m_1849, nhM_17, nhV_17, pdn_6⟩
theorem kV_X12_safe : KV yX12_safe cX12_safe 7 (some .int) 1 := ⟨m_1776, m_1777, m_92, m_1778, nhM_17, nhV_17, pdn_2⟩
theorem kV_X12_sheet : KV yX12_sheet cX12_sheet 5 (some .int) 3 := ⟨m_1828, m_1829, m_92, m_1830, nhM_17, nhV_17, pdn_3⟩
theorem kV_X12_spots : KV yX12_spots cX12_spots 9 (some .int) 4 := ⟨m_1716, m_1717, m_92, m_1718, nhM_17, nhV_17, pdn_25⟩
theorem kV_X12_tell : KV yX12_tell cX12_tell 2 (some .int) 1 := ⟨m_1851, m_1852, m_92, m_1853, nhM_17, nhV_17, pdn_2⟩
theorem kV_X12_tenths : KV yX12_tenths cX12_tenths 3 (some .int) 1 := ⟨m_1735, m_1736, m_92, m_1737, nhM_17, nhV_17, pdn_2⟩
theorem kV_X12_text_ : KV yX12_text_ cX12_text_ 3 (some .int) 1 := ⟨m_1556, m_1557, m_92, m_1558, nhM_17, nhV_17, pdn_2⟩
theorem kV_X12_thingIs : KV yX12_thingIs cX12_thingIs 3 (some .int) 2 := ⟨m_1462, m_1463, m_92, m_1464, nhM_17, nhV_17, pdn_8⟩
theorem kV_X12_thing_ : KV yX12_thing_ cX12_thing_ 3 (some .int) 2 := ⟨m_1424, m_1425, m_92, m_1426, nhM_17, nhV_17, pdn_8⟩
theorem kV_X12_told : KV yX12_told cX12_told 2 (some .int) 1 := ⟨m_1867, m_1868, m_92, m_1869, nhM_17, nhV_17, pdn_2⟩
theorem kV_X12_trace : KV yX12_trace cX12_trace 2 (some .int) 1 := ⟨m_1824, m_1825, m_92, m_1826, nhM_17, nhV_17, pdn_2⟩
theorem kV_X12_voice : KV yX12_voice cX12_voice 5 (some .int) 3 := ⟨m_1800, m_1801, m_92, m_1802, nhM_17, nhV_17, pdn_3⟩
theorem kV_X12_walker : KV yX12_walker cX12_walker 6 (some .int) 3 := ⟨m_1506, m_1507, m_92, m_1508, nhM_17, nhV_17, pdn_3⟩
theorem kV_X12_walkerIs : KV yX12_walkerIs cX12_walkerIs 3 (some .int) 2 := ⟨m_1510, m_1511, m_92, m_1512, nhM_17, nhV_17, pdn_8⟩
theorem kV_X12_way : KV yX12_way cX12_way 7 (some .int) 3 := ⟨m_1763, m_1764, m_92, m_1765, nhM_17, nhV_17, pdn_3⟩
theorem ch_code_192 : (code.data.toList.drop 192).take 36 = [0, 0, 6, 57, 0, 0, 6, 70, 0, 0, 6, 93, 0, 0, 6, 116, 0, 0, 6, 139, 43, 42, 29, 4, 96, 46, 42, 29, 5, 96, 46, 182, 0, 13, 87, 44] := by decide +kernel
theorem dL_law_212 : decode code 212 = .ok (.aload_n 1, 1) := do_43 (rdb (p := 192) (i := 20) ch_code_192 rfl)
theorem dL_law_213 : decode code 213 = .ok (.aload_n 0, 1) := do_42 (rdb (p := 192) (i := 21) ch_code_192 rfl)
theorem dL_law_214 : decode code 214 = .ok (.iload_n 3, 1) := do_29 (rdb (p := 192) (i := 22) ch_code_192 rfl)
theorem dL_law_215 : decode code 215 = .ok (.iconst 1, 1) := do_4 (rdb (p := 192) (i := 23) ch_code_192 rfl)
theorem dL_law_216 : decode code 216 = .ok (.iadd, 1) := do_96 (rdb (p := 192) (i := 24) ch_code_192 rfl)
theorem dL_law_217 : decode code 217 = .ok (.iaload, 1) := do_46 (rdb (p := 192) (i := 25) ch_code_192 rfl)
theorem dL_law_218 : decode code 218 = .ok (.aload_n 0, 1) := do_42 (rdb (p := 192) (i := 26) ch_code_192 rfl)
theorem dL_law_219 : decode code 219 = .ok (.iload_n 3, 1) := do_29 (rdb (p := 192) (i := 27) ch_code_192 rfl)
theorem dL_law_220 : decode code 220 = .ok (.iconst 2, 1) := do_5 (rdb (p := 192) (i := 28) ch_code_192 rfl)
theorem dL_law_221 : decode code 221 = .ok (.iadd, 1) := do_96 (rdb (p := 192) (i := 29) ch_code_192 rfl)
theorem dL_law_222 : decode code 222 = .ok (.iaload, 1) := do_46 (rdb (p := 192) (i := 30) ch_code_192 rfl)
theorem dL_law_223 : decode code 223 = .ok (.invokevirtual 13, 3) := do_182 (rdb (p := 192) (i := 31) ch_code_192 rfl) (rdb (p := 192) (i := 32) ch_code_192 rfl) (rdb (p := 192) (i := 33) ch_code_192 rfl) rfl
theorem ch_code_224 : (code.data.toList.drop 224).take 36 = [0, 13, 87, 44, 42, 29, 4, 96, 46, 42, 29, 5, 96, 46, 182, 0, 17, 87, 167, 5, 209, 43, 42, 29, 4, 96, 46, 42, 29, 5, 96, 46, 182, 0, 18, 87] := by decide +kernel
theorem dL_law_226 : decode code 226 = .ok (.pop, 1) := do_87 (rdb (p := 224) (i := 2) ch_code_224 rfl)
theorem dL_law_227 : decode code 227 = .ok (.aload_n 2, 1) := do_44 (rdb (p := 224) (i := 3) ch_code_224 rfl)
theorem dL_law_228 : decode code 228 = .ok (.aload_n 0, 1) := do_42 (rdb (p := 224) (i := 4) ch_code_224 rfl)
theorem dL_law_229 : decode code 229 = .ok (.iload_n 3, 1) := do_29 (rdb (p := 224) (i := 5) ch_code_224 rfl)
theorem dL_law_230 : decode code 230 = .ok (.iconst 1, 1) := do_4 (rdb (p := 224) (i := 6) ch_code_224 rfl)
theorem dL_law_231 : decode code 231 = .ok (.iadd, 1) := do_96 (rdb (p := 224) (i := 7) ch_code_224 rfl)
theorem dL_law_232 : decode code 232 = .ok (.iaload, 1) := do_46 (rdb (p := 224) (i := 8) ch_code_224 rfl)
theorem dL_law_233 : decode code 233 = .ok (.aload_n 0, 1) := do_42 (rdb (p := 224) (i := 9) ch_code_224 rfl)
theorem dL_law_234 : decode code 234 = .ok (.iload_n 3, 1) := do_29 (rdb (p := 224) (i := 10) ch_code_224 rfl)
theorem dL_law_235 : decode code 235 = .ok (.iconst 2, 1) := do_5 (rdb (p := 224) (i := 11) ch_code_224 rfl)
theorem dL_law_236 : decode code 236 = .ok (.iadd, 1) := do_96 (rdb (p := 224) (i := 12) ch_code_224 rfl)
theorem dL_law_237 : decode code 237 = .ok (.iaload, 1) := do_46 (rdb (p := 224) (i := 13) ch_code_224 rfl)
theorem dL_law_238 : decode code 238 = .ok (.invokevirtual 17, 3) := do_182 (rdb (p := 224) (i := 14) ch_code_224 rfl) (rdb (p := 224) (i := 15) ch_code_224 rfl) (rdb (p := 224) (i := 16) ch_code_224 rfl) rfl
theorem dL_law_241 : decode code 241 = .ok (.pop, 1) := do_87 (rdb (p := 224) (i := 17) ch_code_224 rfl)
theorem dL_law_242 : decode code 242 = .ok (.goto 1489, 3) := do_167 (rdb (p := 224) (i := 18) ch_code_224 rfl) (rdb (p := 224) (i := 19) ch_code_224 rfl) (rdb (p := 224) (i := 20) ch_code_224 rfl) (by decide +kernel)
theorem dL_law_245 : decode code 245 = .ok (.aload_n 1, 1) := do_43 (rdb (p := 224) (i := 21) ch_code_224 rfl)
theorem dL_law_246 : decode code 246 = .ok (.aload_n 0, 1) := do_42 (rdb (p := 224) (i := 22) ch_code_224 rfl)
theorem dL_law_247 : decode code 247 = .ok (.iload_n 3, 1) := do_29 (rdb (p := 224) (i := 23) ch_code_224 rfl)
theorem dL_law_248 : decode code 248 = .ok (.iconst 1, 1) := do_4 (rdb (p := 224) (i := 24) ch_code_224 rfl)
theorem dL_law_249 : decode code 249 = .ok (.iadd, 1) := do_96 (rdb (p := 224) (i := 25) ch_code_224 rfl)
theorem dL_law_250 : decode code 250 = .ok (.iaload, 1) := do_46 (rdb (p := 224) (i := 26) ch_code_224 rfl)
theorem dL_law_251 : decode code 251 = .ok (.aload_n 0, 1) := do_42 (rdb (p := 224) (i := 27) ch_code_224 rfl)
theorem dL_law_252 : decode code 252 = .ok (.iload_n 3, 1) := do_29 (rdb (p := 224) (i := 28) ch_code_224 rfl)
theorem dL_law_253 : decode code 253 = .ok (.iconst 2, 1) := do_5 (rdb (p := 224) (i := 29) ch_code_224 rfl)
theorem dL_law_254 : decode code 254 = .ok (.iadd, 1) := do_96 (rdb (p := 224) (i := 30) ch_code_224 rfl)
theorem dL_law_255 : decode code 255 = .ok (.iaload, 1) := do_46 (rdb (p := 224) (i := 31) ch_code_224 rfl)
theorem ch_code_256 : (code.data.toList.drop 256).take 36 = [182, 0, 18, 87, 44, 42, 29, 4, 96, 46, 42, 29, 5, 96, 46, 182, 0, 21, 87, 167, 5, 176, 43, 42, 29, 4, 96, 46, 42, 29, 5, 96, 46, 42, 29, 6] := by decide +kernel
theorem dL_law_256 : decode code 256 = .ok (.invokevirtual 18, 3) := do_182 (rdb (p := 256) (i := 0) ch_code_256 rfl) (rdb (p := 256) (i := 1) ch_code_256 rfl) (rdb (p := 256) (i := 2) ch_code_256 rfl) rfl
theorem dL_law_259 : decode code 259 = .ok (.pop, 1) := do_87 (rdb (p := 256) (i := 3) ch_code_256 rfl)
theorem dL_law_260 : decode code 260 = .ok (.aload_n 2, 1) := do_44 (rdb (p := 256) (i := 4) ch_code_256 rfl)
theorem dL_law_261 : decode code 261 = .ok (.aload_n 0, 1) := do_42 (rdb (p := 256) (i := 5) ch_code_256 rfl)
theorem dL_law_262 : decode code 262 = .ok (.iload_n 3, 1) := do_29 (rdb (p := 256) (i := 6) ch_code_256 rfl)
theorem dL_law_263 : decode code 263 = .ok (.iconst 1, 1) := do_4 (rdb (p := 256) (i := 7) ch_code_256 rfl)
theorem dL_law_264 : decode code 264 = .ok (.iadd, 1) := do_96 (rdb (p := 256) (i := 8) ch_code_256 rfl)
theorem dL_law_265 : decode code 265 = .ok (.iaload, 1) := do_46 (rdb (p := 256) (i := 9) ch_code_256 rfl)
theorem dL_law_266 : decode code 266 = .ok (.aload_n 0, 1) := do_42 (rdb (p := 256) (i := 10) ch_code_256 rfl)
theorem dL_law_267 : decode code 267 = .ok (.iload_n 3, 1) := do_29 (rdb (p := 256) (i := 11) ch_code_256 rfl)
theorem dL_law_268 : decode code 268 = .ok (.iconst 2, 1) := do_5 (rdb (p := 256) (i := 12) ch_code_256 rfl)
theorem dL_law_269 : decode code 269 = .ok (.iadd, 1) := do_96 (rdb (p := 256) (i := 13) ch_code_256 rfl)
theorem dL_law_270 : decode code 270 = .ok (.iaload, 1) := do_46 (rdb (p := 256) (i := 14) ch_code_256 rfl)
theorem dL_law_271 : decode code 271 = .ok (.invokevirtual 21, 3) := do_182 (rdb (p := 256) (i := 15) ch_code_256 rfl) (rdb (p := 256) (i := 16) ch_code_256 rfl) (rdb (p := 256) (i := 17) ch_code_256 rfl) rfl
theorem dL_law_274 : decode code 274 = .ok (.pop, 1) := do_87 (rdb (p := 256) (i := 18) ch_code_256 rfl)
theorem dL_law_275 : decode code 275 = .ok (.goto 1456, 3) := do_167 (rdb (p := 256) (i := 19) ch_code_256 rfl) (rdb (p := 256) (i := 20) ch_code_256 rfl) (rdb (p := 256) (i := 21) ch_code_256 rfl) (by decide +kernel)
theorem dL_law_278 : decode code 278 = .ok (.aload_n 1, 1) := do_43 (rdb (p := 256) (i := 22) ch_code_256 rfl)
theorem dL_law_279 : decode code 279 = .ok (.aload_n 0, 1) := do_42 (rdb (p := 256) (i := 23) ch_code_256 rfl)
theorem dL_law_280 : decode code 280 = .ok (.iload_n 3, 1) := do_29 (rdb (p := 256) (i := 24) ch_code_256 rfl)
theorem dL_law_281 : decode code 281 = .ok (.iconst 1, 1) := do_4 (rdb (p := 256) (i := 25) ch_code_256 rfl)
theorem dL_law_282 : decode code 282 = .ok (.iadd, 1) := do_96 (rdb (p := 256) (i := 26) ch_code_256 rfl)
theorem dL_law_283 : decode code 283 = .ok (.iaload, 1) := do_46 (rdb (p := 256) (i := 27) ch_code_256 rfl)
theorem dL_law_284 : decode code 284 = .ok (.aload_n 0, 1) := do_42 (rdb (p := 256) (i := 28) ch_code_256 rfl)
theorem dL_law_285 : decode code 285 = .ok (.iload_n 3, 1) := do_29 (rdb (p := 256) (i := 29) ch_code_256 rfl)
theorem dL_law_286 : decode code 286 = .ok (.iconst 2, 1) := do_5 (rdb (p := 256) (i := 30) ch_code_256 rfl)
theorem dL_law_287 : decode code 287 = .ok (.iadd, 1) := do_96 (rdb (p := 256) (i := 31) ch_code_256 rfl)
theorem ch_code_288 : (code.data.toList.drop 288).take 36 = [46, 42, 29, 6, 96, 46, 182, 0, 22, 87, 44, 42, 29, 4, 96, 46, 42, 29, 5, 96, 46, 42, 29, 6, 96, 46, 182, 0, 26, 87, 167, 5, 133, 43, 42, 29] := by decide +kernel
theorem dL_law_288 : decode code 288 = .ok (.iaload, 1) := do_46 (rdb (p := 288) (i := 0) ch_code_288 rfl)
theorem dL_law_289 : decode code 289 = .ok (.aload_n 0, 1) := do_42 (rdb (p := 288) (i := 1) ch_code_288 rfl)
theorem dL_law_290 : decode code 290 = .ok (.iload_n 3, 1) := do_29 (rdb (p := 288) (i := 2) ch_code_288 rfl)
theorem dL_law_291 : decode code 291 = .ok (.iconst 3, 1) := do_6 (rdb (p := 288) (i := 3) ch_code_288 rfl)
theorem dL_law_292 : decode code 292 = .ok (.iadd, 1) := do_96 (rdb (p := 288) (i := 4) ch_code_288 rfl)
theorem dL_law_293 : decode code 293 = .ok (.iaload, 1) := do_46 (rdb (p := 288) (i := 5) ch_code_288 rfl)
theorem dL_law_294 : decode code 294 = .ok (.invokevirtual 22, 3) := do_182 (rdb (p := 288) (i := 6) ch_code_288 rfl) (rdb (p := 288) (i := 7) ch_code_288 rfl) (rdb (p := 288) (i := 8) ch_code_288 rfl) rfl
theorem dL_law_297 : decode code 297 = .ok (.pop, 1) := do_87 (rdb (p := 288) (i := 9) ch_code_288 rfl)
theorem dL_law_298 : decode code 298 = .ok (.aload_n 2, 1) := do_44 (rdb (p := 288) (i := 10) ch_code_288 rfl)
theorem dL_law_299 : decode code 299 = .ok (.aload_n 0, 1) := do_42 (rdb (p := 288) (i := 11) ch_code_288 rfl)
theorem dL_law_300 : decode code 300 = .ok (.iload_n 3, 1) := do_29 (rdb (p := 288) (i := 12) ch_code_288 rfl)
theorem dL_law_301 : decode code 301 = .ok (.iconst 1, 1) := do_4 (rdb (p := 288) (i := 13) ch_code_288 rfl)
theorem dL_law_302 : decode code 302 = .ok (.iadd, 1) := do_96 (rdb (p := 288) (i := 14) ch_code_288 rfl)
theorem dL_law_303 : decode code 303 = .ok (.iaload, 1) := do_46 (rdb (p := 288) (i := 15) ch_code_288 rfl)
theorem dL_law_304 : decode code 304 = .ok (.aload_n 0, 1) := do_42 (rdb (p := 288) (i := 16) ch_code_288 rfl)
theorem dL_law_305 : decode code 305 = .ok (.iload_n 3, 1) := do_29 (rdb (p := 288) (i := 17) ch_code_288 rfl)
theorem dL_law_306 : decode code 306 = .ok (.iconst 2, 1) := do_5 (rdb (p := 288) (i := 18) ch_code_288 rfl)
theorem dL_law_307 : decode code 307 = .ok (.iadd, 1) := do_96 (rdb (p := 288) (i := 19) ch_code_288 rfl)
theorem dL_law_308 : decode code 308 = .ok (.iaload, 1) := do_46 (rdb (p := 288) (i := 20) ch_code_288 rfl)
theorem dL_law_309 : decode code 309 = .ok (.aload_n 0, 1) := do_42 (rdb (p := 288) (i := 21) ch_code_288 rfl)
theorem dL_law_310 : decode code 310 = .ok (.iload_n 3, 1) := do_29 (rdb (p := 288) (i := 22) ch_code_288 rfl)
theorem dL_law_311 : decode code 311 = .ok (.iconst 3, 1) := do_6 (rdb (p := 288) (i := 23) ch_code_288 rfl)
theorem dL_law_312 : decode code 312 = .ok (.iadd, 1) := do_96 (rdb (p := 288) (i := 24) ch_code_288 rfl)
theorem dL_law_313 : decode code 313 = .ok (.iaload, 1) := do_46 (rdb (p := 288) (i := 25) ch_code_288 rfl)
theorem dL_law_314 : decode code 314 = .ok (.invokevirtual 26, 3) := do_182 (rdb (p := 288) (i := 26) ch_code_288 rfl) (rdb (p := 288) (i := 27) ch_code_288 rfl) (rdb (p := 288) (i := 28) ch_code_288 rfl) rfl
theorem dL_law_317 : decode code 317 = .ok (.pop, 1) := do_87 (rdb (p := 288) (i := 29) ch_code_288 rfl)
theorem dL_law_318 : decode code 318 = .ok (.goto 1413, 3) := do_167 (rdb (p := 288) (i := 30) ch_code_288 rfl) (rdb (p := 288) (i := 31) ch_code_288 rfl) (rdb (p := 288) (i := 32) ch_code_288 rfl) (by decide +kernel)
theorem ch_code_320 : (code.data.toList.drop 320).take 36 = [133, 43, 42, 29, 4, 96, 46, 182, 0, 27, 87, 44, 42, 29, 4, 96, 46, 182, 0, 31, 87, 167, 5, 110, 43, 42, 29, 4, 96, 46, 42, 29, 5, 96, 46, 42] := by decide +kernel
theorem dL_law_321 : decode code 321 = .ok (.aload_n 1, 1) := do_43 (rdb (p := 320) (i := 1) ch_code_320 rfl)
theorem dL_law_322 : decode code 322 = .ok (.aload_n 0, 1) := do_42 (rdb (p := 320) (i := 2) ch_code_320 rfl)
theorem dL_law_323 : decode code 323 = .ok (.iload_n 3, 1) := do_29 (rdb (p := 320) (i := 3) ch_code_320 rfl)
theorem dL_law_324 : decode code 324 = .ok (.iconst 1, 1) := do_4 (rdb (p := 320) (i := 4) ch_code_320 rfl)
theorem dL_law_325 : decode code 325 = .ok (.iadd, 1) := do_96 (rdb (p := 320) (i := 5) ch_code_320 rfl)
theorem dL_law_326 : decode code 326 = .ok (.iaload, 1) := do_46 (rdb (p := 320) (i := 6) ch_code_320 rfl)
theorem dL_law_327 : decode code 327 = .ok (.invokevirtual 27, 3) := do_182 (rdb (p := 320) (i := 7) ch_code_320 rfl) (rdb (p := 320) (i := 8) ch_code_320 rfl) (rdb (p := 320) (i := 9) ch_code_320 rfl) rfl
theorem dL_law_330 : decode code 330 = .ok (.pop, 1) := do_87 (rdb (p := 320) (i := 10) ch_code_320 rfl)
theorem dL_law_331 : decode code 331 = .ok (.aload_n 2, 1) := do_44 (rdb (p := 320) (i := 11) ch_code_320 rfl)
theorem dL_law_332 : decode code 332 = .ok (.aload_n 0, 1) := do_42 (rdb (p := 320) (i := 12) ch_code_320 rfl)
theorem dL_law_333 : decode code 333 = .ok (.iload_n 3, 1) := do_29 (rdb (p := 320) (i := 13) ch_code_320 rfl)
theorem dL_law_334 : decode code 334 = .ok (.iconst 1, 1) := do_4 (rdb (p := 320) (i := 14) ch_code_320 rfl)
theorem dL_law_335 : decode code 335 = .ok (.iadd, 1) := do_96 (rdb (p := 320) (i := 15) ch_code_320 rfl)
theorem dL_law_336 : decode code 336 = .ok (.iaload, 1) := do_46 (rdb (p := 320) (i := 16) ch_code_320 rfl)
theorem dL_law_337 : decode code 337 = .ok (.invokevirtual 31, 3) := do_182 (rdb (p := 320) (i := 17) ch_code_320 rfl) (rdb (p := 320) (i := 18) ch_code_320 rfl) (rdb (p := 320) (i := 19) ch_code_320 rfl) rfl
theorem dL_law_340 : decode code 340 = .ok (.pop, 1) := do_87 (rdb (p := 320) (i := 20) ch_code_320 rfl)
theorem dL_law_341 : decode code 341 = .ok (.goto 1390, 3) := do_167 (rdb (p := 320) (i := 21) ch_code_320 rfl) (rdb (p := 320) (i := 22) ch_code_320 rfl) (rdb (p := 320) (i := 23) ch_code_320 rfl) (by decide +kernel)
theorem dL_law_344 : decode code 344 = .ok (.aload_n 1, 1) := do_43 (rdb (p := 320) (i := 24) ch_code_320 rfl)
theorem dL_law_345 : decode code 345 = .ok (.aload_n 0, 1) := do_42 (rdb (p := 320) (i := 25) ch_code_320 rfl)
theorem dL_law_346 : decode code 346 = .ok (.iload_n 3, 1) := do_29 (rdb (p := 320) (i := 26) ch_code_320 rfl)
theorem dL_law_347 : decode code 347 = .ok (.iconst 1, 1) := do_4 (rdb (p := 320) (i := 27) ch_code_320 rfl)
theorem dL_law_348 : decode code 348 = .ok (.iadd, 1) := do_96 (rdb (p := 320) (i := 28) ch_code_320 rfl)
theorem dL_law_349 : decode code 349 = .ok (.iaload, 1) := do_46 (rdb (p := 320) (i := 29) ch_code_320 rfl)
theorem dL_law_350 : decode code 350 = .ok (.aload_n 0, 1) := do_42 (rdb (p := 320) (i := 30) ch_code_320 rfl)
theorem dL_law_351 : decode code 351 = .ok (.iload_n 3, 1) := do_29 (rdb (p := 320) (i := 31) ch_code_320 rfl)
theorem ch_code_352 : (code.data.toList.drop 352).take 36 = [5, 96, 46, 42, 29, 6, 96, 46, 182, 0, 32, 87, 44, 42, 29, 4, 96, 46, 42, 29, 5, 96, 46, 42, 29, 6, 96, 46, 182, 0, 35, 87, 167, 5, 67, 43] := by decide +kernel
theorem dL_law_352 : decode code 352 = .ok (.iconst 2, 1) := do_5 (rdb (p := 352) (i := 0) ch_code_352 rfl)
theorem dL_law_353 : decode code 353 = .ok (.iadd, 1) := do_96 (rdb (p := 352) (i := 1) ch_code_352 rfl)
theorem dL_law_354 : decode code 354 = .ok (.iaload, 1) := do_46 (rdb (p := 352) (i := 2) ch_code_352 rfl)
theorem dL_law_355 : decode code 355 = .ok (.aload_n 0, 1) := do_42 (rdb (p := 352) (i := 3) ch_code_352 rfl)
theorem dL_law_356 : decode code 356 = .ok (.iload_n 3, 1) := do_29 (rdb (p := 352) (i := 4) ch_code_352 rfl)
theorem dL_law_357 : decode code 357 = .ok (.iconst 3, 1) := do_6 (rdb (p := 352) (i := 5) ch_code_352 rfl)
theorem dL_law_358 : decode code 358 = .ok (.iadd, 1) := do_96 (rdb (p := 352) (i := 6) ch_code_352 rfl)
theorem dL_law_359 : decode code 359 = .ok (.iaload, 1) := do_46 (rdb (p := 352) (i := 7) ch_code_352 rfl)
theorem dL_law_360 : decode code 360 = .ok (.invokevirtual 32, 3) := do_182 (rdb (p := 352) (i := 8) ch_code_352 rfl) (rdb (p := 352) (i := 9) ch_code_352 rfl) (rdb (p := 352) (i := 10) ch_code_352 rfl) rfl
theorem dL_law_363 : decode code 363 = .ok (.pop, 1) := do_87 (rdb (p := 352) (i := 11) ch_code_352 rfl)
theorem dL_law_364 : decode code 364 = .ok (.aload_n 2, 1) := do_44 (rdb (p := 352) (i := 12) ch_code_352 rfl)
theorem dL_law_365 : decode code 365 = .ok (.aload_n 0, 1) := do_42 (rdb (p := 352) (i := 13) ch_code_352 rfl)
theorem dL_law_366 : decode code 366 = .ok (.iload_n 3, 1) := do_29 (rdb (p := 352) (i := 14) ch_code_352 rfl)
theorem dL_law_367 : decode code 367 = .ok (.iconst 1, 1) := do_4 (rdb (p := 352) (i := 15) ch_code_352 rfl)
theorem dL_law_368 : decode code 368 = .ok (.iadd, 1) := do_96 (rdb (p := 352) (i := 16) ch_code_352 rfl)
theorem dL_law_369 : decode code 369 = .ok (.iaload, 1) := do_46 (rdb (p := 352) (i := 17) ch_code_352 rfl)
theorem dL_law_370 : decode code 370 = .ok (.aload_n 0, 1) := do_42 (rdb (p := 352) (i := 18) ch_code_352 rfl)
theorem dL_law_371 : decode code 371 = .ok (.iload_n 3, 1) := do_29 (rdb (p := 352) (i := 19) ch_code_352 rfl)
theorem dL_law_372 : decode code 372 = .ok (.iconst 2, 1) := do_5 (rdb (p := 352) (i := 20) ch_code_352 rfl)
theorem dL_law_373 : decode code 373 = .ok (.iadd, 1) := do_96 (rdb (p := 352) (i := 21) ch_code_352 rfl)
theorem dL_law_374 : decode code 374 = .ok (.iaload, 1) := do_46 (rdb (p := 352) (i := 22) ch_code_352 rfl)
theorem dL_law_375 : decode code 375 = .ok (.aload_n 0, 1) := do_42 (rdb (p := 352) (i := 23) ch_code_352 rfl)
theorem dL_law_376 : decode code 376 = .ok (.iload_n 3, 1) := do_29 (rdb (p := 352) (i := 24) ch_code_352 rfl)
theorem dL_law_377 : decode code 377 = .ok (.iconst 3, 1) := do_6 (rdb (p := 352) (i := 25) ch_code_352 rfl)
theorem dL_law_378 : decode code 378 = .ok (.iadd, 1) := do_96 (rdb (p := 352) (i := 26) ch_code_352 rfl)
theorem dL_law_379 : decode code 379 = .ok (.iaload, 1) := do_46 (rdb (p := 352) (i := 27) ch_code_352 rfl)
theorem dL_law_380 : decode code 380 = .ok (.invokevirtual 35, 3) := do_182 (rdb (p := 352) (i := 28) ch_code_352 rfl) (rdb (p := 352) (i := 29) ch_code_352 rfl) (rdb (p := 352) (i := 30) ch_code_352 rfl) rfl
theorem dL_law_383 : decode code 383 = .ok (.pop, 1) := do_87 (rdb (p := 352) (i := 31) ch_code_352 rfl)
theorem ch_code_384 : (code.data.toList.drop 384).take 36 = [167, 5, 67, 43, 42, 29, 4, 96, 46, 182, 0, 36, 87, 44, 42, 29, 4, 96, 46, 182, 0, 39, 87, 167, 5, 44, 43, 42, 29, 4, 96, 46, 42, 29, 5, 96] := by decide +kernel
theorem dL_law_384 : decode code 384 = .ok (.goto 1347, 3) := do_167 (rdb (p := 384) (i := 0) ch_code_384 rfl) (rdb (p := 384) (i := 1) ch_code_384 rfl) (rdb (p := 384) (i := 2) ch_code_384 rfl) (by decide +kernel)
theorem dL_law_387 : decode code 387 = .ok (.aload_n 1, 1) := do_43 (rdb (p := 384) (i := 3) ch_code_384 rfl)
theorem dL_law_388 : decode code 388 = .ok (.aload_n 0, 1) := do_42 (rdb (p := 384) (i := 4) ch_code_384 rfl)
theorem dL_law_389 : decode code 389 = .ok (.iload_n 3, 1) := do_29 (rdb (p := 384) (i := 5) ch_code_384 rfl)
theorem dL_law_390 : decode code 390 = .ok (.iconst 1, 1) := do_4 (rdb (p := 384) (i := 6) ch_code_384 rfl)
theorem dL_law_391 : decode code 391 = .ok (.iadd, 1) := do_96 (rdb (p := 384) (i := 7) ch_code_384 rfl)
theorem dL_law_392 : decode code 392 = .ok (.iaload, 1) := do_46 (rdb (p := 384) (i := 8) ch_code_384 rfl)
theorem dL_law_393 : decode code 393 = .ok (.invokevirtual 36, 3) := do_182 (rdb (p := 384) (i := 9) ch_code_384 rfl) (rdb (p := 384) (i := 10) ch_code_384 rfl) (rdb (p := 384) (i := 11) ch_code_384 rfl) rfl
theorem dL_law_396 : decode code 396 = .ok (.pop, 1) := do_87 (rdb (p := 384) (i := 12) ch_code_384 rfl)
theorem dL_law_397 : decode code 397 = .ok (.aload_n 2, 1) := do_44 (rdb (p := 384) (i := 13) ch_code_384 rfl)
theorem dL_law_398 : decode code 398 = .ok (.aload_n 0, 1) := do_42 (rdb (p := 384) (i := 14) ch_code_384 rfl)
theorem dL_law_399 : decode code 399 = .ok (.iload_n 3, 1) := do_29 (rdb (p := 384) (i := 15) ch_code_384 rfl)
theorem dL_law_400 : decode code 400 = .ok (.iconst 1, 1) := do_4 (rdb (p := 384) (i := 16) ch_code_384 rfl)
theorem dL_law_401 : decode code 401 = .ok (.iadd, 1) := do_96 (rdb (p := 384) (i := 17) ch_code_384 rfl)
theorem dL_law_402 : decode code 402 = .ok (.iaload, 1) := do_46 (rdb (p := 384) (i := 18) ch_code_384 rfl)
theorem dL_law_403 : decode code 403 = .ok (.invokevirtual 39, 3) := do_182 (rdb (p := 384) (i := 19) ch_code_384 rfl) (rdb (p := 384) (i := 20) ch_code_384 rfl) (rdb (p := 384) (i := 21) ch_code_384 rfl) rfl
theorem dL_law_406 : decode code 406 = .ok (.pop, 1) := do_87 (rdb (p := 384) (i := 22) ch_code_384 rfl)
theorem dL_law_407 : decode code 407 = .ok (.goto 1324, 3) := do_167 (rdb (p := 384) (i := 23) ch_code_384 rfl) (rdb (p := 384) (i := 24) ch_code_384 rfl) (rdb (p := 384) (i := 25) ch_code_384 rfl) (by decide +kernel)
theorem dL_law_410 : decode code 410 = .ok (.aload_n 1, 1) := do_43 (rdb (p := 384) (i := 26) ch_code_384 rfl)
theorem dL_law_411 : decode code 411 = .ok (.aload_n 0, 1) := do_42 (rdb (p := 384) (i := 27) ch_code_384 rfl)
theorem dL_law_412 : decode code 412 = .ok (.iload_n 3, 1) := do_29 (rdb (p := 384) (i := 28) ch_code_384 rfl)
theorem dL_law_413 : decode code 413 = .ok (.iconst 1, 1) := do_4 (rdb (p := 384) (i := 29) ch_code_384 rfl)
theorem dL_law_414 : decode code 414 = .ok (.iadd, 1) := do_96 (rdb (p := 384) (i := 30) ch_code_384 rfl)
theorem dL_law_415 : decode code 415 = .ok (.iaload, 1) := do_46 (rdb (p := 384) (i := 31) ch_code_384 rfl)
theorem ch_code_416 : (code.data.toList.drop 416).take 36 = [42, 29, 5, 96, 46, 182, 0, 40, 87, 44, 42, 29, 4, 96, 46, 42, 29, 5, 96, 46, 182, 0, 43, 87, 167, 5, 11, 43, 42, 29, 4, 96, 46, 42, 29, 5] := by decide +kernel
theorem dL_law_416 : decode code 416 = .ok (.aload_n 0, 1) := do_42 (rdb (p := 416) (i := 0) ch_code_416 rfl)
theorem dL_law_417 : decode code 417 = .ok (.iload_n 3, 1) := do_29 (rdb (p := 416) (i := 1) ch_code_416 rfl)
theorem dL_law_418 : decode code 418 = .ok (.iconst 2, 1) := do_5 (rdb (p := 416) (i := 2) ch_code_416 rfl)
theorem dL_law_419 : decode code 419 = .ok (.iadd, 1) := do_96 (rdb (p := 416) (i := 3) ch_code_416 rfl)
theorem dL_law_420 : decode code 420 = .ok (.iaload, 1) := do_46 (rdb (p := 416) (i := 4) ch_code_416 rfl)
theorem dL_law_421 : decode code 421 = .ok (.invokevirtual 40, 3) := do_182 (rdb (p := 416) (i := 5) ch_code_416 rfl) (rdb (p := 416) (i := 6) ch_code_416 rfl) (rdb (p := 416) (i := 7) ch_code_416 rfl) rfl
theorem dL_law_424 : decode code 424 = .ok (.pop, 1) := do_87 (rdb (p := 416) (i := 8) ch_code_416 rfl)
theorem dL_law_425 : decode code 425 = .ok (.aload_n 2, 1) := do_44 (rdb (p := 416) (i := 9) ch_code_416 rfl)
theorem dL_law_426 : decode code 426 = .ok (.aload_n 0, 1) := do_42 (rdb (p := 416) (i := 10) ch_code_416 rfl)
theorem dL_law_427 : decode code 427 = .ok (.iload_n 3, 1) := do_29 (rdb (p := 416) (i := 11) ch_code_416 rfl)
theorem dL_law_428 : decode code 428 = .ok (.iconst 1, 1) := do_4 (rdb (p := 416) (i := 12) ch_code_416 rfl)
theorem dL_law_429 : decode code 429 = .ok (.iadd, 1) := do_96 (rdb (p := 416) (i := 13) ch_code_416 rfl)
theorem dL_law_430 : decode code 430 = .ok (.iaload, 1) := do_46 (rdb (p := 416) (i := 14) ch_code_416 rfl)
theorem dL_law_431 : decode code 431 = .ok (.aload_n 0, 1) := do_42 (rdb (p := 416) (i := 15) ch_code_416 rfl)
theorem dL_law_432 : decode code 432 = .ok (.iload_n 3, 1) := do_29 (rdb (p := 416) (i := 16) ch_code_416 rfl)
theorem dL_law_433 : decode code 433 = .ok (.iconst 2, 1) := do_5 (rdb (p := 416) (i := 17) ch_code_416 rfl)
theorem dL_law_434 : decode code 434 = .ok (.iadd, 1) := do_96 (rdb (p := 416) (i := 18) ch_code_416 rfl)
theorem dL_law_435 : decode code 435 = .ok (.iaload, 1) := do_46 (rdb (p := 416) (i := 19) ch_code_416 rfl)
theorem dL_law_436 : decode code 436 = .ok (.invokevirtual 43, 3) := do_182 (rdb (p := 416) (i := 20) ch_code_416 rfl) (rdb (p := 416) (i := 21) ch_code_416 rfl) (rdb (p := 416) (i := 22) ch_code_416 rfl) rfl
theorem dL_law_439 : decode code 439 = .ok (.pop, 1) := do_87 (rdb (p := 416) (i := 23) ch_code_416 rfl)
theorem dL_law_440 : decode code 440 = .ok (.goto 1291, 3) := do_167 (rdb (p := 416) (i := 24) ch_code_416 rfl) (rdb (p := 416) (i := 25) ch_code_416 rfl) (rdb (p := 416) (i := 26) ch_code_416 rfl) (by decide +kernel)
theorem dL_law_443 : decode code 443 = .ok (.aload_n 1, 1) := do_43 (rdb (p := 416) (i := 27) ch_code_416 rfl)
theorem dL_law_444 : decode code 444 = .ok (.aload_n 0, 1) := do_42 (rdb (p := 416) (i := 28) ch_code_416 rfl)
theorem dL_law_445 : decode code 445 = .ok (.iload_n 3, 1) := do_29 (rdb (p := 416) (i := 29) ch_code_416 rfl)
theorem dL_law_446 : decode code 446 = .ok (.iconst 1, 1) := do_4 (rdb (p := 416) (i := 30) ch_code_416 rfl)
theorem dL_law_447 : decode code 447 = .ok (.iadd, 1) := do_96 (rdb (p := 416) (i := 31) ch_code_416 rfl)
theorem ch_code_448 : (code.data.toList.drop 448).take 36 = [46, 42, 29, 5, 96, 46, 182, 0, 44, 87, 44, 42, 29, 4, 96, 46, 42, 29, 5, 96, 46, 182, 0, 47, 87, 167, 4, 234, 43, 42, 29, 4, 96, 46, 42, 29] := by decide +kernel
theorem dL_law_448 : decode code 448 = .ok (.iaload, 1) := do_46 (rdb (p := 448) (i := 0) ch_code_448 rfl)
theorem dL_law_449 : decode code 449 = .ok (.aload_n 0, 1) := do_42 (rdb (p := 448) (i := 1) ch_code_448 rfl)
theorem dL_law_450 : decode code 450 = .ok (.iload_n 3, 1) := do_29 (rdb (p := 448) (i := 2) ch_code_448 rfl)
theorem dL_law_451 : decode code 451 = .ok (.iconst 2, 1) := do_5 (rdb (p := 448) (i := 3) ch_code_448 rfl)
theorem dL_law_452 : decode code 452 = .ok (.iadd, 1) := do_96 (rdb (p := 448) (i := 4) ch_code_448 rfl)
theorem dL_law_453 : decode code 453 = .ok (.iaload, 1) := do_46 (rdb (p := 448) (i := 5) ch_code_448 rfl)
theorem dL_law_454 : decode code 454 = .ok (.invokevirtual 44, 3) := do_182 (rdb (p := 448) (i := 6) ch_code_448 rfl) (rdb (p := 448) (i := 7) ch_code_448 rfl) (rdb (p := 448) (i := 8) ch_code_448 rfl) rfl
theorem dL_law_457 : decode code 457 = .ok (.pop, 1) := do_87 (rdb (p := 448) (i := 9) ch_code_448 rfl)
theorem dL_law_458 : decode code 458 = .ok (.aload_n 2, 1) := do_44 (rdb (p := 448) (i := 10) ch_code_448 rfl)
theorem dL_law_459 : decode code 459 = .ok (.aload_n 0, 1) := do_42 (rdb (p := 448) (i := 11) ch_code_448 rfl)
theorem dL_law_460 : decode code 460 = .ok (.iload_n 3, 1) := do_29 (rdb (p := 448) (i := 12) ch_code_448 rfl)
theorem dL_law_461 : decode code 461 = .ok (.iconst 1, 1) := do_4 (rdb (p := 448) (i := 13) ch_code_448 rfl)
theorem dL_law_462 : decode code 462 = .ok (.iadd, 1) := do_96 (rdb (p := 448) (i := 14) ch_code_448 rfl)
theorem dL_law_463 : decode code 463 = .ok (.iaload, 1) := do_46 (rdb (p := 448) (i := 15) ch_code_448 rfl)
theorem dL_law_464 : decode code 464 = .ok (.aload_n 0, 1) := do_42 (rdb (p := 448) (i := 16) ch_code_448 rfl)
theorem dL_law_465 : decode code 465 = .ok (.iload_n 3, 1) := do_29 (rdb (p := 448) (i := 17) ch_code_448 rfl)
theorem dL_law_466 : decode code 466 = .ok (.iconst 2, 1) := do_5 (rdb (p := 448) (i := 18) ch_code_448 rfl)
theorem dL_law_467 : decode code 467 = .ok (.iadd, 1) := do_96 (rdb (p := 448) (i := 19) ch_code_448 rfl)
theorem dL_law_468 : decode code 468 = .ok (.iaload, 1) := do_46 (rdb (p := 448) (i := 20) ch_code_448 rfl)
theorem dL_law_469 : decode code 469 = .ok (.invokevirtual 47, 3) := do_182 (rdb (p := 448) (i := 21) ch_code_448 rfl) (rdb (p := 448) (i := 22) ch_code_448 rfl) (rdb (p := 448) (i := 23) ch_code_448 rfl) rfl
theorem dL_law_472 : decode code 472 = .ok (.pop, 1) := do_87 (rdb (p := 448) (i := 24) ch_code_448 rfl)
theorem dL_law_473 : decode code 473 = .ok (.goto 1258, 3) := do_167 (rdb (p := 448) (i := 25) ch_code_448 rfl) (rdb (p := 448) (i := 26) ch_code_448 rfl) (rdb (p := 448) (i := 27) ch_code_448 rfl) (by decide +kernel)
theorem dL_law_476 : decode code 476 = .ok (.aload_n 1, 1) := do_43 (rdb (p := 448) (i := 28) ch_code_448 rfl)
theorem dL_law_477 : decode code 477 = .ok (.aload_n 0, 1) := do_42 (rdb (p := 448) (i := 29) ch_code_448 rfl)
theorem dL_law_478 : decode code 478 = .ok (.iload_n 3, 1) := do_29 (rdb (p := 448) (i := 30) ch_code_448 rfl)
theorem dL_law_479 : decode code 479 = .ok (.iconst 1, 1) := do_4 (rdb (p := 448) (i := 31) ch_code_448 rfl)
theorem ch_code_480 : (code.data.toList.drop 480).take 36 = [96, 46, 42, 29, 5, 96, 46, 42, 29, 6, 96, 46, 182, 0, 48, 87, 44, 42, 29, 4, 96, 46, 42, 29, 5, 96, 46, 42, 29, 6, 96, 46, 182, 0, 51, 87] := by decide +kernel
theorem dL_law_480 : decode code 480 = .ok (.iadd, 1) := do_96 (rdb (p := 480) (i := 0) ch_code_480 rfl)
theorem dL_law_481 : decode code 481 = .ok (.iaload, 1) := do_46 (rdb (p := 480) (i := 1) ch_code_480 rfl)
theorem dL_law_482 : decode code 482 = .ok (.aload_n 0, 1) := do_42 (rdb (p := 480) (i := 2) ch_code_480 rfl)
theorem dL_law_483 : decode code 483 = .ok (.iload_n 3, 1) := do_29 (rdb (p := 480) (i := 3) ch_code_480 rfl)
theorem dL_law_484 : decode code 484 = .ok (.iconst 2, 1) := do_5 (rdb (p := 480) (i := 4) ch_code_480 rfl)
theorem dL_law_485 : decode code 485 = .ok (.iadd, 1) := do_96 (rdb (p := 480) (i := 5) ch_code_480 rfl)
theorem dL_law_486 : decode code 486 = .ok (.iaload, 1) := do_46 (rdb (p := 480) (i := 6) ch_code_480 rfl)
theorem dL_law_487 : decode code 487 = .ok (.aload_n 0, 1) := do_42 (rdb (p := 480) (i := 7) ch_code_480 rfl)
theorem dL_law_488 : decode code 488 = .ok (.iload_n 3, 1) := do_29 (rdb (p := 480) (i := 8) ch_code_480 rfl)
theorem dL_law_489 : decode code 489 = .ok (.iconst 3, 1) := do_6 (rdb (p := 480) (i := 9) ch_code_480 rfl)
theorem dL_law_490 : decode code 490 = .ok (.iadd, 1) := do_96 (rdb (p := 480) (i := 10) ch_code_480 rfl)
theorem dL_law_491 : decode code 491 = .ok (.iaload, 1) := do_46 (rdb (p := 480) (i := 11) ch_code_480 rfl)
theorem dL_law_492 : decode code 492 = .ok (.invokevirtual 48, 3) := do_182 (rdb (p := 480) (i := 12) ch_code_480 rfl) (rdb (p := 480) (i := 13) ch_code_480 rfl) (rdb (p := 480) (i := 14) ch_code_480 rfl) rfl
theorem dL_law_495 : decode code 495 = .ok (.pop, 1) := do_87 (rdb (p := 480) (i := 15) ch_code_480 rfl)
theorem dL_law_496 : decode code 496 = .ok (.aload_n 2, 1) := do_44 (rdb (p := 480) (i := 16) ch_code_480 rfl)
theorem dL_law_497 : decode code 497 = .ok (.aload_n 0, 1) := do_42 (rdb (p := 480) (i := 17) ch_code_480 rfl)
theorem dL_law_498 : decode code 498 = .ok (.iload_n 3, 1) := do_29 (rdb (p := 480) (i := 18) ch_code_480 rfl)
theorem dL_law_499 : decode code 499 = .ok (.iconst 1, 1) := do_4 (rdb (p := 480) (i := 19) ch_code_480 rfl)
theorem dL_law_500 : decode code 500 = .ok (.iadd, 1) := do_96 (rdb (p := 480) (i := 20) ch_code_480 rfl)
theorem dL_law_501 : decode code 501 = .ok (.iaload, 1) := do_46 (rdb (p := 480) (i := 21) ch_code_480 rfl)
theorem dL_law_502 : decode code 502 = .ok (.aload_n 0, 1) := do_42 (rdb (p := 480) (i := 22) ch_code_480 rfl)
theorem dL_law_503 : decode code 503 = .ok (.iload_n 3, 1) := do_29 (rdb (p := 480) (i := 23) ch_code_480 rfl)
theorem dL_law_504 : decode code 504 = .ok (.iconst 2, 1) := do_5 (rdb (p := 480) (i := 24) ch_code_480 rfl)
theorem dL_law_505 : decode code 505 = .ok (.iadd, 1) := do_96 (rdb (p := 480) (i := 25) ch_code_480 rfl)
theorem dL_law_506 : decode code 506 = .ok (.iaload, 1) := do_46 (rdb (p := 480) (i := 26) ch_code_480 rfl)
theorem dL_law_507 : decode code 507 = .ok (.aload_n 0, 1) := do_42 (rdb (p := 480) (i := 27) ch_code_480 rfl)
theorem dL_law_508 : decode code 508 = .ok (.iload_n 3, 1) := do_29 (rdb (p := 480) (i := 28) ch_code_480 rfl)
theorem dL_law_509 : decode code 509 = .ok (.iconst 3, 1) := do_6 (rdb (p := 480) (i := 29) ch_code_480 rfl)
theorem dL_law_510 : decode code 510 = .ok (.iadd, 1) := do_96 (rdb (p := 480) (i := 30) ch_code_480 rfl)
theorem dL_law_511 : decode code 511 = .ok (.iaload, 1) := do_46 (rdb (p := 480) (i := 31) ch_code_480 rfl)
theorem ch_code_512 : (code.data.toList.drop 512).take 36 = [182, 0, 51, 87, 167, 4, 191, 43, 42, 29, 4, 96, 46, 42, 29, 5, 96, 46, 182, 0, 52, 87, 44, 42, 29, 4, 96, 46, 42, 29, 5, 96, 46, 182, 0, 55] := by decide +kernel
theorem dL_law_512 : decode code 512 = .ok (.invokevirtual 51, 3) := do_182 (rdb (p := 512) (i := 0) ch_code_512 rfl) (rdb (p := 512) (i := 1) ch_code_512 rfl) (rdb (p := 512) (i := 2) ch_code_512 rfl) rfl
theorem dL_law_515 : decode code 515 = .ok (.pop, 1) := do_87 (rdb (p := 512) (i := 3) ch_code_512 rfl)
theorem dL_law_516 : decode code 516 = .ok (.goto 1215, 3) := do_167 (rdb (p := 512) (i := 4) ch_code_512 rfl) (rdb (p := 512) (i := 5) ch_code_512 rfl) (rdb (p := 512) (i := 6) ch_code_512 rfl) (by decide +kernel)
theorem dL_law_519 : decode code 519 = .ok (.aload_n 1, 1) := do_43 (rdb (p := 512) (i := 7) ch_code_512 rfl)
theorem dL_law_520 : decode code 520 = .ok (.aload_n 0, 1) := do_42 (rdb (p := 512) (i := 8) ch_code_512 rfl)
theorem dL_law_521 : decode code 521 = .ok (.iload_n 3, 1) := do_29 (rdb (p := 512) (i := 9) ch_code_512 rfl)
theorem dL_law_522 : decode code 522 = .ok (.iconst 1, 1) := do_4 (rdb (p := 512) (i := 10) ch_code_512 rfl)
theorem dL_law_523 : decode code 523 = .ok (.iadd, 1) := do_96 (rdb (p := 512) (i := 11) ch_code_512 rfl)
theorem dL_law_524 : decode code 524 = .ok (.iaload, 1) := do_46 (rdb (p := 512) (i := 12) ch_code_512 rfl)
theorem dL_law_525 : decode code 525 = .ok (.aload_n 0, 1) := do_42 (rdb (p := 512) (i := 13) ch_code_512 rfl)
theorem dL_law_526 : decode code 526 = .ok (.iload_n 3, 1) := do_29 (rdb (p := 512) (i := 14) ch_code_512 rfl)
theorem dL_law_527 : decode code 527 = .ok (.iconst 2, 1) := do_5 (rdb (p := 512) (i := 15) ch_code_512 rfl)
theorem dL_law_528 : decode code 528 = .ok (.iadd, 1) := do_96 (rdb (p := 512) (i := 16) ch_code_512 rfl)
theorem dL_law_529 : decode code 529 = .ok (.iaload, 1) := do_46 (rdb (p := 512) (i := 17) ch_code_512 rfl)
theorem dL_law_530 : decode code 530 = .ok (.invokevirtual 52, 3) := do_182 (rdb (p := 512) (i := 18) ch_code_512 rfl) (rdb (p := 512) (i := 19) ch_code_512 rfl) (rdb (p := 512) (i := 20) ch_code_512 rfl) rfl
theorem dL_law_533 : decode code 533 = .ok (.pop, 1) := do_87 (rdb (p := 512) (i := 21) ch_code_512 rfl)
theorem dL_law_534 : decode code 534 = .ok (.aload_n 2, 1) := do_44 (rdb (p := 512) (i := 22) ch_code_512 rfl)
theorem dL_law_535 : decode code 535 = .ok (.aload_n 0, 1) := do_42 (rdb (p := 512) (i := 23) ch_code_512 rfl)
theorem dL_law_536 : decode code 536 = .ok (.iload_n 3, 1) := do_29 (rdb (p := 512) (i := 24) ch_code_512 rfl)
theorem dL_law_537 : decode code 537 = .ok (.iconst 1, 1) := do_4 (rdb (p := 512) (i := 25) ch_code_512 rfl)
theorem dL_law_538 : decode code 538 = .ok (.iadd, 1) := do_96 (rdb (p := 512) (i := 26) ch_code_512 rfl)
theorem dL_law_539 : decode code 539 = .ok (.iaload, 1) := do_46 (rdb (p := 512) (i := 27) ch_code_512 rfl)
theorem dL_law_540 : decode code 540 = .ok (.aload_n 0, 1) := do_42 (rdb (p := 512) (i := 28) ch_code_512 rfl)
theorem dL_law_541 : decode code 541 = .ok (.iload_n 3, 1) := do_29 (rdb (p := 512) (i := 29) ch_code_512 rfl)
theorem dL_law_542 : decode code 542 = .ok (.iconst 2, 1) := do_5 (rdb (p := 512) (i := 30) ch_code_512 rfl)
theorem dL_law_543 : decode code 543 = .ok (.iadd, 1) := do_96 (rdb (p := 512) (i := 31) ch_code_512 rfl)
theorem ch_code_544 : (code.data.toList.drop 544).take 36 = [46, 182, 0, 55, 87, 167, 4, 158, 43, 42, 29, 4, 96, 46, 42, 29, 5, 96, 46, 182, 0, 56, 87, 44, 42, 29, 4, 96, 46, 42, 29, 5, 96, 46, 182, 0] := by decide +kernel
theorem dL_law_544 : decode code 544 = .ok (.iaload, 1) := do_46 (rdb (p := 544) (i := 0) ch_code_544 rfl)
theorem dL_law_545 : decode code 545 = .ok (.invokevirtual 55, 3) := do_182 (rdb (p := 544) (i := 1) ch_code_544 rfl) (rdb (p := 544) (i := 2) ch_code_544 rfl) (rdb (p := 544) (i := 3) ch_code_544 rfl) rfl
theorem dL_law_548 : decode code 548 = .ok (.pop, 1) := do_87 (rdb (p := 544) (i := 4) ch_code_544 rfl)
theorem dL_law_549 : decode code 549 = .ok (.goto 1182, 3) := do_167 (rdb (p := 544) (i := 5) ch_code_544 rfl) (rdb (p := 544) (i := 6) ch_code_544 rfl) (rdb (p := 544) (i := 7) ch_code_544 rfl) (by decide +kernel)
theorem dL_law_552 : decode code 552 = .ok (.aload_n 1, 1) := do_43 (rdb (p := 544) (i := 8) ch_code_544 rfl)
theorem dL_law_553 : decode code 553 = .ok (.aload_n 0, 1) := do_42 (rdb (p := 544) (i := 9) ch_code_544 rfl)
theorem dL_law_554 : decode code 554 = .ok (.iload_n 3, 1) := do_29 (rdb (p := 544) (i := 10) ch_code_544 rfl)
theorem dL_law_555 : decode code 555 = .ok (.iconst 1, 1) := do_4 (rdb (p := 544) (i := 11) ch_code_544 rfl)
theorem dL_law_556 : decode code 556 = .ok (.iadd, 1) := do_96 (rdb (p := 544) (i := 12) ch_code_544 rfl)
theorem dL_law_557 : decode code 557 = .ok (.iaload, 1) := do_46 (rdb (p := 544) (i := 13) ch_code_544 rfl)
theorem dL_law_558 : decode code 558 = .ok (.aload_n 0, 1) := do_42 (rdb (p := 544) (i := 14) ch_code_544 rfl)
theorem dL_law_559 : decode code 559 = .ok (.iload_n 3, 1) := do_29 (rdb (p := 544) (i := 15) ch_code_544 rfl)
theorem dL_law_560 : decode code 560 = .ok (.iconst 2, 1) := do_5 (rdb (p := 544) (i := 16) ch_code_544 rfl)
theorem dL_law_561 : decode code 561 = .ok (.iadd, 1) := do_96 (rdb (p := 544) (i := 17) ch_code_544 rfl)
theorem dL_law_562 : decode code 562 = .ok (.iaload, 1) := do_46 (rdb (p := 544) (i := 18) ch_code_544 rfl)
theorem dL_law_563 : decode code 563 = .ok (.invokevirtual 56, 3) := do_182 (rdb (p := 544) (i := 19) ch_code_544 rfl) (rdb (p := 544) (i := 20) ch_code_544 rfl) (rdb (p := 544) (i := 21) ch_code_544 rfl) rfl
theorem dL_law_566 : decode code 566 = .ok (.pop, 1) := do_87 (rdb (p := 544) (i := 22) ch_code_544 rfl)
theorem dL_law_567 : decode code 567 = .ok (.aload_n 2, 1) := do_44 (rdb (p := 544) (i := 23) ch_code_544 rfl)
theorem dL_law_568 : decode code 568 = .ok (.aload_n 0, 1) := do_42 (rdb (p := 544) (i := 24) ch_code_544 rfl)
theorem dL_law_569 : decode code 569 = .ok (.iload_n 3, 1) := do_29 (rdb (p := 544) (i := 25) ch_code_544 rfl)
theorem dL_law_570 : decode code 570 = .ok (.iconst 1, 1) := do_4 (rdb (p := 544) (i := 26) ch_code_544 rfl)
theorem dL_law_571 : decode code 571 = .ok (.iadd, 1) := do_96 (rdb (p := 544) (i := 27) ch_code_544 rfl)
theorem dL_law_572 : decode code 572 = .ok (.iaload, 1) := do_46 (rdb (p := 544) (i := 28) ch_code_544 rfl)
theorem dL_law_573 : decode code 573 = .ok (.aload_n 0, 1) := do_42 (rdb (p := 544) (i := 29) ch_code_544 rfl)
theorem dL_law_574 : decode code 574 = .ok (.iload_n 3, 1) := do_29 (rdb (p := 544) (i := 30) ch_code_544 rfl)
theorem dL_law_575 : decode code 575 = .ok (.iconst 2, 1) := do_5 (rdb (p := 544) (i := 31) ch_code_544 rfl)
theorem ch_code_576 : (code.data.toList.drop 576).take 36 = [96, 46, 182, 0, 59, 87, 167, 4, 125, 43, 42, 29, 4, 96, 46, 42, 29, 5, 96, 46, 42, 29, 6, 96, 46, 42, 29, 7, 96, 46, 182, 0, 60, 87, 44, 42] := by decide +kernel
theorem dL_law_576 : decode code 576 = .ok (.iadd, 1) := do_96 (rdb (p := 576) (i := 0) ch_code_576 rfl)
theorem dL_law_577 : decode code 577 = .ok (.iaload, 1) := do_46 (rdb (p := 576) (i := 1) ch_code_576 rfl)
theorem dL_law_578 : decode code 578 = .ok (.invokevirtual 59, 3) := do_182 (rdb (p := 576) (i := 2) ch_code_576 rfl) (rdb (p := 576) (i := 3) ch_code_576 rfl) (rdb (p := 576) (i := 4) ch_code_576 rfl) rfl
theorem dL_law_581 : decode code 581 = .ok (.pop, 1) := do_87 (rdb (p := 576) (i := 5) ch_code_576 rfl)
theorem dL_law_582 : decode code 582 = .ok (.goto 1149, 3) := do_167 (rdb (p := 576) (i := 6) ch_code_576 rfl) (rdb (p := 576) (i := 7) ch_code_576 rfl) (rdb (p := 576) (i := 8) ch_code_576 rfl) (by decide +kernel)
theorem dL_law_585 : decode code 585 = .ok (.aload_n 1, 1) := do_43 (rdb (p := 576) (i := 9) ch_code_576 rfl)
theorem dL_law_586 : decode code 586 = .ok (.aload_n 0, 1) := do_42 (rdb (p := 576) (i := 10) ch_code_576 rfl)
theorem dL_law_587 : decode code 587 = .ok (.iload_n 3, 1) := do_29 (rdb (p := 576) (i := 11) ch_code_576 rfl)
theorem dL_law_588 : decode code 588 = .ok (.iconst 1, 1) := do_4 (rdb (p := 576) (i := 12) ch_code_576 rfl)
theorem dL_law_589 : decode code 589 = .ok (.iadd, 1) := do_96 (rdb (p := 576) (i := 13) ch_code_576 rfl)
theorem dL_law_590 : decode code 590 = .ok (.iaload, 1) := do_46 (rdb (p := 576) (i := 14) ch_code_576 rfl)
theorem dL_law_591 : decode code 591 = .ok (.aload_n 0, 1) := do_42 (rdb (p := 576) (i := 15) ch_code_576 rfl)
theorem dL_law_592 : decode code 592 = .ok (.iload_n 3, 1) := do_29 (rdb (p := 576) (i := 16) ch_code_576 rfl)
theorem dL_law_593 : decode code 593 = .ok (.iconst 2, 1) := do_5 (rdb (p := 576) (i := 17) ch_code_576 rfl)
theorem dL_law_594 : decode code 594 = .ok (.iadd, 1) := do_96 (rdb (p := 576) (i := 18) ch_code_576 rfl)
theorem dL_law_595 : decode code 595 = .ok (.iaload, 1) := do_46 (rdb (p := 576) (i := 19) ch_code_576 rfl)
theorem dL_law_596 : decode code 596 = .ok (.aload_n 0, 1) := do_42 (rdb (p := 576) (i := 20) ch_code_576 rfl)
theorem dL_law_597 : decode code 597 = .ok (.iload_n 3, 1) := do_29 (rdb (p := 576) (i := 21) ch_code_576 rfl)
theorem dL_law_598 : decode code 598 = .ok (.iconst 3, 1) := do_6 (rdb (p := 576) (i := 22) ch_code_576 rfl)
theorem dL_law_599 : decode code 599 = .ok (.iadd, 1) := do_96 (rdb (p := 576) (i := 23) ch_code_576 rfl)
theorem dL_law_600 : decode code 600 = .ok (.iaload, 1) := do_46 (rdb (p := 576) (i := 24) ch_code_576 rfl)
theorem dL_law_601 : decode code 601 = .ok (.aload_n 0, 1) := do_42 (rdb (p := 576) (i := 25) ch_code_576 rfl)
theorem dL_law_602 : decode code 602 = .ok (.iload_n 3, 1) := do_29 (rdb (p := 576) (i := 26) ch_code_576 rfl)
theorem dL_law_603 : decode code 603 = .ok (.iconst 4, 1) := do_7 (rdb (p := 576) (i := 27) ch_code_576 rfl)
theorem dL_law_604 : decode code 604 = .ok (.iadd, 1) := do_96 (rdb (p := 576) (i := 28) ch_code_576 rfl)
theorem dL_law_605 : decode code 605 = .ok (.iaload, 1) := do_46 (rdb (p := 576) (i := 29) ch_code_576 rfl)
theorem dL_law_606 : decode code 606 = .ok (.invokevirtual 60, 3) := do_182 (rdb (p := 576) (i := 30) ch_code_576 rfl) (rdb (p := 576) (i := 31) ch_code_576 rfl) (rdb (p := 576) (i := 32) ch_code_576 rfl) rfl
theorem ch_code_608 : (code.data.toList.drop 608).take 36 = [60, 87, 44, 42, 29, 4, 96, 46, 42, 29, 5, 96, 46, 42, 29, 6, 96, 46, 42, 29, 7, 96, 46, 182, 0, 64, 87, 167, 4, 72, 43, 42, 29, 4, 96, 46] := by decide +kernel
theorem dL_law_609 : decode code 609 = .ok (.pop, 1) := do_87 (rdb (p := 608) (i := 1) ch_code_608 rfl)
theorem dL_law_610 : decode code 610 = .ok (.aload_n 2, 1) := do_44 (rdb (p := 608) (i := 2) ch_code_608 rfl)
theorem dL_law_611 : decode code 611 = .ok (.aload_n 0, 1) := do_42 (rdb (p := 608) (i := 3) ch_code_608 rfl)
theorem dL_law_612 : decode code 612 = .ok (.iload_n 3, 1) := do_29 (rdb (p := 608) (i := 4) ch_code_608 rfl)
theorem dL_law_613 : decode code 613 = .ok (.iconst 1, 1) := do_4 (rdb (p := 608) (i := 5) ch_code_608 rfl)
theorem dL_law_614 : decode code 614 = .ok (.iadd, 1) := do_96 (rdb (p := 608) (i := 6) ch_code_608 rfl)
theorem dL_law_615 : decode code 615 = .ok (.iaload, 1) := do_46 (rdb (p := 608) (i := 7) ch_code_608 rfl)
theorem dL_law_616 : decode code 616 = .ok (.aload_n 0, 1) := do_42 (rdb (p := 608) (i := 8) ch_code_608 rfl)
theorem dL_law_617 : decode code 617 = .ok (.iload_n 3, 1) := do_29 (rdb (p := 608) (i := 9) ch_code_608 rfl)
theorem dL_law_618 : decode code 618 = .ok (.iconst 2, 1) := do_5 (rdb (p := 608) (i := 10) ch_code_608 rfl)
theorem dL_law_619 : decode code 619 = .ok (.iadd, 1) := do_96 (rdb (p := 608) (i := 11) ch_code_608 rfl)
theorem dL_law_620 : decode code 620 = .ok (.iaload, 1) := do_46 (rdb (p := 608) (i := 12) ch_code_608 rfl)
theorem dL_law_621 : decode code 621 = .ok (.aload_n 0, 1) := do_42 (rdb (p := 608) (i := 13) ch_code_608 rfl)
theorem dL_law_622 : decode code 622 = .ok (.iload_n 3, 1) := do_29 (rdb (p := 608) (i := 14) ch_code_608 rfl)
theorem dL_law_623 : decode code 623 = .ok (.iconst 3, 1) := do_6 (rdb (p := 608) (i := 15) ch_code_608 rfl)
theorem dL_law_624 : decode code 624 = .ok (.iadd, 1) := do_96 (rdb (p := 608) (i := 16) ch_code_608 rfl)
theorem dL_law_625 : decode code 625 = .ok (.iaload, 1) := do_46 (rdb (p := 608) (i := 17) ch_code_608 rfl)
theorem dL_law_626 : decode code 626 = .ok (.aload_n 0, 1) := do_42 (rdb (p := 608) (i := 18) ch_code_608 rfl)
theorem dL_law_627 : decode code 627 = .ok (.iload_n 3, 1) := do_29 (rdb (p := 608) (i := 19) ch_code_608 rfl)
theorem dL_law_628 : decode code 628 = .ok (.iconst 4, 1) := do_7 (rdb (p := 608) (i := 20) ch_code_608 rfl)
theorem dL_law_629 : decode code 629 = .ok (.iadd, 1) := do_96 (rdb (p := 608) (i := 21) ch_code_608 rfl)
theorem dL_law_630 : decode code 630 = .ok (.iaload, 1) := do_46 (rdb (p := 608) (i := 22) ch_code_608 rfl)
theorem dL_law_631 : decode code 631 = .ok (.invokevirtual 64, 3) := do_182 (rdb (p := 608) (i := 23) ch_code_608 rfl) (rdb (p := 608) (i := 24) ch_code_608 rfl) (rdb (p := 608) (i := 25) ch_code_608 rfl) rfl
theorem dL_law_634 : decode code 634 = .ok (.pop, 1) := do_87 (rdb (p := 608) (i := 26) ch_code_608 rfl)
theorem dL_law_635 : decode code 635 = .ok (.goto 1096, 3) := do_167 (rdb (p := 608) (i := 27) ch_code_608 rfl) (rdb (p := 608) (i := 28) ch_code_608 rfl) (rdb (p := 608) (i := 29) ch_code_608 rfl) (by decide +kernel)
theorem dL_law_638 : decode code 638 = .ok (.aload_n 1, 1) := do_43 (rdb (p := 608) (i := 30) ch_code_608 rfl)
theorem dL_law_639 : decode code 639 = .ok (.aload_n 0, 1) := do_42 (rdb (p := 608) (i := 31) ch_code_608 rfl)
theorem ch_code_640 : (code.data.toList.drop 640).take 36 = [29, 4, 96, 46, 42, 29, 5, 96, 46, 182, 0, 65, 87, 44, 42, 29, 4, 96, 46, 42, 29, 5, 96, 46, 182, 0, 68, 87, 167, 4, 39, 43, 42, 29, 4, 96] := by decide +kernel
theorem dL_law_640 : decode code 640 = .ok (.iload_n 3, 1) := do_29 (rdb (p := 640) (i := 0) ch_code_640 rfl)
theorem dL_law_641 : decode code 641 = .ok (.iconst 1, 1) := do_4 (rdb (p := 640) (i := 1) ch_code_640 rfl)
theorem dL_law_642 : decode code 642 = .ok (.iadd, 1) := do_96 (rdb (p := 640) (i := 2) ch_code_640 rfl)
theorem dL_law_643 : decode code 643 = .ok (.iaload, 1) := do_46 (rdb (p := 640) (i := 3) ch_code_640 rfl)
theorem dL_law_644 : decode code 644 = .ok (.aload_n 0, 1) := do_42 (rdb (p := 640) (i := 4) ch_code_640 rfl)
theorem dL_law_645 : decode code 645 = .ok (.iload_n 3, 1) := do_29 (rdb (p := 640) (i := 5) ch_code_640 rfl)
theorem dL_law_646 : decode code 646 = .ok (.iconst 2, 1) := do_5 (rdb (p := 640) (i := 6) ch_code_640 rfl)
theorem dL_law_647 : decode code 647 = .ok (.iadd, 1) := do_96 (rdb (p := 640) (i := 7) ch_code_640 rfl)
theorem dL_law_648 : decode code 648 = .ok (.iaload, 1) := do_46 (rdb (p := 640) (i := 8) ch_code_640 rfl)
theorem dL_law_649 : decode code 649 = .ok (.invokevirtual 65, 3) := do_182 (rdb (p := 640) (i := 9) ch_code_640 rfl) (rdb (p := 640) (i := 10) ch_code_640 rfl) (rdb (p := 640) (i := 11) ch_code_640 rfl) rfl
theorem dL_law_652 : decode code 652 = .ok (.pop, 1) := do_87 (rdb (p := 640) (i := 12) ch_code_640 rfl)
theorem dL_law_653 : decode code 653 = .ok (.aload_n 2, 1) := do_44 (rdb (p := 640) (i := 13) ch_code_640 rfl)
theorem dL_law_654 : decode code 654 = .ok (.aload_n 0, 1) := do_42 (rdb (p := 640) (i := 14) ch_code_640 rfl)
theorem dL_law_655 : decode code 655 = .ok (.iload_n 3, 1) := do_29 (rdb (p := 640) (i := 15) ch_code_640 rfl)
theorem dL_law_656 : decode code 656 = .ok (.iconst 1, 1) := do_4 (rdb (p := 640) (i := 16) ch_code_640 rfl)
theorem dL_law_657 : decode code 657 = .ok (.iadd, 1) := do_96 (rdb (p := 640) (i := 17) ch_code_640 rfl)
theorem dL_law_658 : decode code 658 = .ok (.iaload, 1) := do_46 (rdb (p := 640) (i := 18) ch_code_640 rfl)
theorem dL_law_659 : decode code 659 = .ok (.aload_n 0, 1) := do_42 (rdb (p := 640) (i := 19) ch_code_640 rfl)
theorem dL_law_660 : decode code 660 = .ok (.iload_n 3, 1) := do_29 (rdb (p := 640) (i := 20) ch_code_640 rfl)
theorem dL_law_661 : decode code 661 = .ok (.iconst 2, 1) := do_5 (rdb (p := 640) (i := 21) ch_code_640 rfl)
theorem dL_law_662 : decode code 662 = .ok (.iadd, 1) := do_96 (rdb (p := 640) (i := 22) ch_code_640 rfl)
theorem dL_law_663 : decode code 663 = .ok (.iaload, 1) := do_46 (rdb (p := 640) (i := 23) ch_code_640 rfl)
theorem dL_law_664 : decode code 664 = .ok (.invokevirtual 68, 3) := do_182 (rdb (p := 640) (i := 24) ch_code_640 rfl) (rdb (p := 640) (i := 25) ch_code_640 rfl) (rdb (p := 640) (i := 26) ch_code_640 rfl) rfl
theorem dL_law_667 : decode code 667 = .ok (.pop, 1) := do_87 (rdb (p := 640) (i := 27) ch_code_640 rfl)
theorem dL_law_668 : decode code 668 = .ok (.goto 1063, 3) := do_167 (rdb (p := 640) (i := 28) ch_code_640 rfl) (rdb (p := 640) (i := 29) ch_code_640 rfl) (rdb (p := 640) (i := 30) ch_code_640 rfl) (by decide +kernel)
theorem dL_law_671 : decode code 671 = .ok (.aload_n 1, 1) := do_43 (rdb (p := 640) (i := 31) ch_code_640 rfl)
theorem ch_code_672 : (code.data.toList.drop 672).take 36 = [42, 29, 4, 96, 46, 42, 29, 5, 96, 46, 153, 0, 7, 4, 167, 0, 4, 3, 182, 0, 69, 87, 44, 42, 29, 4, 96, 46, 42, 29, 5, 96, 46, 153, 0, 7] := by decide +kernel
theorem dL_law_672 : decode code 672 = .ok (.aload_n 0, 1) := do_42 (rdb (p := 672) (i := 0) ch_code_672 rfl)
theorem dL_law_673 : decode code 673 = .ok (.iload_n 3, 1) := do_29 (rdb (p := 672) (i := 1) ch_code_672 rfl)
theorem dL_law_674 : decode code 674 = .ok (.iconst 1, 1) := do_4 (rdb (p := 672) (i := 2) ch_code_672 rfl)
theorem dL_law_675 : decode code 675 = .ok (.iadd, 1) := do_96 (rdb (p := 672) (i := 3) ch_code_672 rfl)
theorem dL_law_676 : decode code 676 = .ok (.iaload, 1) := do_46 (rdb (p := 672) (i := 4) ch_code_672 rfl)
theorem dL_law_677 : decode code 677 = .ok (.aload_n 0, 1) := do_42 (rdb (p := 672) (i := 5) ch_code_672 rfl)
theorem dL_law_678 : decode code 678 = .ok (.iload_n 3, 1) := do_29 (rdb (p := 672) (i := 6) ch_code_672 rfl)
theorem dL_law_679 : decode code 679 = .ok (.iconst 2, 1) := do_5 (rdb (p := 672) (i := 7) ch_code_672 rfl)
theorem dL_law_680 : decode code 680 = .ok (.iadd, 1) := do_96 (rdb (p := 672) (i := 8) ch_code_672 rfl)
theorem dL_law_681 : decode code 681 = .ok (.iaload, 1) := do_46 (rdb (p := 672) (i := 9) ch_code_672 rfl)
theorem dL_law_682 : decode code 682 = .ok (.ifCond .eq 7, 3) := do_153 (rdb (p := 672) (i := 10) ch_code_672 rfl) (rdb (p := 672) (i := 11) ch_code_672 rfl) (rdb (p := 672) (i := 12) ch_code_672 rfl) (by decide +kernel)
theorem dL_law_685 : decode code 685 = .ok (.iconst 1, 1) := do_4 (rdb (p := 672) (i := 13) ch_code_672 rfl)
theorem dL_law_686 : decode code 686 = .ok (.goto 4, 3) := do_167 (rdb (p := 672) (i := 14) ch_code_672 rfl) (rdb (p := 672) (i := 15) ch_code_672 rfl) (rdb (p := 672) (i := 16) ch_code_672 rfl) (by decide +kernel)
theorem dL_law_689 : decode code 689 = .ok (.iconst 0, 1) := do_3 (rdb (p := 672) (i := 17) ch_code_672 rfl)
theorem dL_law_690 : decode code 690 = .ok (.invokevirtual 69, 3) := do_182 (rdb (p := 672) (i := 18) ch_code_672 rfl) (rdb (p := 672) (i := 19) ch_code_672 rfl) (rdb (p := 672) (i := 20) ch_code_672 rfl) rfl
theorem dL_law_693 : decode code 693 = .ok (.pop, 1) := do_87 (rdb (p := 672) (i := 21) ch_code_672 rfl)
theorem dL_law_694 : decode code 694 = .ok (.aload_n 2, 1) := do_44 (rdb (p := 672) (i := 22) ch_code_672 rfl)
theorem dL_law_695 : decode code 695 = .ok (.aload_n 0, 1) := do_42 (rdb (p := 672) (i := 23) ch_code_672 rfl)
theorem dL_law_696 : decode code 696 = .ok (.iload_n 3, 1) := do_29 (rdb (p := 672) (i := 24) ch_code_672 rfl)
theorem dL_law_697 : decode code 697 = .ok (.iconst 1, 1) := do_4 (rdb (p := 672) (i := 25) ch_code_672 rfl)
theorem dL_law_698 : decode code 698 = .ok (.iadd, 1) := do_96 (rdb (p := 672) (i := 26) ch_code_672 rfl)
theorem dL_law_699 : decode code 699 = .ok (.iaload, 1) := do_46 (rdb (p := 672) (i := 27) ch_code_672 rfl)
theorem dL_law_700 : decode code 700 = .ok (.aload_n 0, 1) := do_42 (rdb (p := 672) (i := 28) ch_code_672 rfl)
theorem dL_law_701 : decode code 701 = .ok (.iload_n 3, 1) := do_29 (rdb (p := 672) (i := 29) ch_code_672 rfl)
theorem dL_law_702 : decode code 702 = .ok (.iconst 2, 1) := do_5 (rdb (p := 672) (i := 30) ch_code_672 rfl)
theorem dL_law_703 : decode code 703 = .ok (.iadd, 1) := do_96 (rdb (p := 672) (i := 31) ch_code_672 rfl)
theorem ch_code_704 : (code.data.toList.drop 704).take 36 = [46, 153, 0, 7, 4, 167, 0, 4, 3, 182, 0, 73, 87, 167, 3, 246, 43, 42, 29, 4, 96, 46, 133, 16, 32, 121, 42, 29, 5, 96, 46, 133, 20, 0, 74, 127] := by decide +kernel
theorem dL_law_704 : decode code 704 = .ok (.iaload, 1) := do_46 (rdb (p := 704) (i := 0) ch_code_704 rfl)
theorem dL_law_705 : decode code 705 = .ok (.ifCond .eq 7, 3) := do_153 (rdb (p := 704) (i := 1) ch_code_704 rfl) (rdb (p := 704) (i := 2) ch_code_704 rfl) (rdb (p := 704) (i := 3) ch_code_704 rfl) (by decide +kernel)
theorem dL_law_708 : decode code 708 = .ok (.iconst 1, 1) := do_4 (rdb (p := 704) (i := 4) ch_code_704 rfl)
theorem dL_law_709 : decode code 709 = .ok (.goto 4, 3) := do_167 (rdb (p := 704) (i := 5) ch_code_704 rfl) (rdb (p := 704) (i := 6) ch_code_704 rfl) (rdb (p := 704) (i := 7) ch_code_704 rfl) (by decide +kernel)
theorem dL_law_712 : decode code 712 = .ok (.iconst 0, 1) := do_3 (rdb (p := 704) (i := 8) ch_code_704 rfl)
theorem dL_law_713 : decode code 713 = .ok (.invokevirtual 73, 3) := do_182 (rdb (p := 704) (i := 9) ch_code_704 rfl) (rdb (p := 704) (i := 10) ch_code_704 rfl) (rdb (p := 704) (i := 11) ch_code_704 rfl) rfl
theorem dL_law_716 : decode code 716 = .ok (.pop, 1) := do_87 (rdb (p := 704) (i := 12) ch_code_704 rfl)
theorem dL_law_717 : decode code 717 = .ok (.goto 1014, 3) := do_167 (rdb (p := 704) (i := 13) ch_code_704 rfl) (rdb (p := 704) (i := 14) ch_code_704 rfl) (rdb (p := 704) (i := 15) ch_code_704 rfl) (by decide +kernel)
theorem dL_law_720 : decode code 720 = .ok (.aload_n 1, 1) := do_43 (rdb (p := 704) (i := 16) ch_code_704 rfl)
theorem dL_law_721 : decode code 721 = .ok (.aload_n 0, 1) := do_42 (rdb (p := 704) (i := 17) ch_code_704 rfl)
theorem dL_law_722 : decode code 722 = .ok (.iload_n 3, 1) := do_29 (rdb (p := 704) (i := 18) ch_code_704 rfl)
theorem dL_law_723 : decode code 723 = .ok (.iconst 1, 1) := do_4 (rdb (p := 704) (i := 19) ch_code_704 rfl)
theorem dL_law_724 : decode code 724 = .ok (.iadd, 1) := do_96 (rdb (p := 704) (i := 20) ch_code_704 rfl)
theorem dL_law_725 : decode code 725 = .ok (.iaload, 1) := do_46 (rdb (p := 704) (i := 21) ch_code_704 rfl)
theorem dL_law_726 : decode code 726 = .ok (.i2l, 1) := do_133 (rdb (p := 704) (i := 22) ch_code_704 rfl)
theorem dL_law_727 : decode code 727 = .ok (.bipush 32, 2) := do_16 (rdb (p := 704) (i := 23) ch_code_704 rfl) (rdb (p := 704) (i := 24) ch_code_704 rfl) (by decide +kernel)
theorem dL_law_729 : decode code 729 = .ok (.lshl, 1) := do_121 (rdb (p := 704) (i := 25) ch_code_704 rfl)
theorem dL_law_730 : decode code 730 = .ok (.aload_n 0, 1) := do_42 (rdb (p := 704) (i := 26) ch_code_704 rfl)
theorem dL_law_731 : decode code 731 = .ok (.iload_n 3, 1) := do_29 (rdb (p := 704) (i := 27) ch_code_704 rfl)
theorem dL_law_732 : decode code 732 = .ok (.iconst 2, 1) := do_5 (rdb (p := 704) (i := 28) ch_code_704 rfl)
theorem dL_law_733 : decode code 733 = .ok (.iadd, 1) := do_96 (rdb (p := 704) (i := 29) ch_code_704 rfl)
theorem dL_law_734 : decode code 734 = .ok (.iaload, 1) := do_46 (rdb (p := 704) (i := 30) ch_code_704 rfl)
theorem dL_law_735 : decode code 735 = .ok (.i2l, 1) := do_133 (rdb (p := 704) (i := 31) ch_code_704 rfl)
theorem ch_code_736 : (code.data.toList.drop 736).take 36 = [20, 0, 74, 127, 129, 42, 29, 6, 96, 46, 182, 0, 76, 87, 44, 42, 29, 4, 96, 46, 133, 16, 32, 121, 42, 29, 5, 96, 46, 133, 20, 0, 74, 127, 129, 42] := by decide +kernel
theorem dL_law_736 : decode code 736 = .ok (.ldc2_w 74, 3) := do_20 (rdb (p := 736) (i := 0) ch_code_736 rfl) (rdb (p := 736) (i := 1) ch_code_736 rfl) (rdb (p := 736) (i := 2) ch_code_736 rfl) rfl
theorem dL_law_739 : decode code 739 = .ok (.land, 1) := do_127 (rdb (p := 736) (i := 3) ch_code_736 rfl)
theorem dL_law_740 : decode code 740 = .ok (.lor, 1) := do_129 (rdb (p := 736) (i := 4) ch_code_736 rfl)
theorem dL_law_741 : decode code 741 = .ok (.aload_n 0, 1) := do_42 (rdb (p := 736) (i := 5) ch_code_736 rfl)
theorem dL_law_742 : decode code 742 = .ok (.iload_n 3, 1) := do_29 (rdb (p := 736) (i := 6) ch_code_736 rfl)
theorem dL_law_743 : decode code 743 = .ok (.iconst 3, 1) := do_6 (rdb (p := 736) (i := 7) ch_code_736 rfl)
theorem dL_law_744 : decode code 744 = .ok (.iadd, 1) := do_96 (rdb (p := 736) (i := 8) ch_code_736 rfl)
theorem dL_law_745 : decode code 745 = .ok (.iaload, 1) := do_46 (rdb (p := 736) (i := 9) ch_code_736 rfl)
theorem dL_law_746 : decode code 746 = .ok (.invokevirtual 76, 3) := do_182 (rdb (p := 736) (i := 10) ch_code_736 rfl) (rdb (p := 736) (i := 11) ch_code_736 rfl) (rdb (p := 736) (i := 12) ch_code_736 rfl) rfl
theorem dL_law_749 : decode code 749 = .ok (.pop, 1) := do_87 (rdb (p := 736) (i := 13) ch_code_736 rfl)
theorem dL_law_750 : decode code 750 = .ok (.aload_n 2, 1) := do_44 (rdb (p := 736) (i := 14) ch_code_736 rfl)
theorem dL_law_751 : decode code 751 = .ok (.aload_n 0, 1) := do_42 (rdb (p := 736) (i := 15) ch_code_736 rfl)
theorem dL_law_752 : decode code 752 = .ok (.iload_n 3, 1) := do_29 (rdb (p := 736) (i := 16) ch_code_736 rfl)
theorem dL_law_753 : decode code 753 = .ok (.iconst 1, 1) := do_4 (rdb (p := 736) (i := 17) ch_code_736 rfl)
theorem dL_law_754 : decode code 754 = .ok (.iadd, 1) := do_96 (rdb (p := 736) (i := 18) ch_code_736 rfl)
theorem dL_law_755 : decode code 755 = .ok (.iaload, 1) := do_46 (rdb (p := 736) (i := 19) ch_code_736 rfl)
theorem dL_law_756 : decode code 756 = .ok (.i2l, 1) := do_133 (rdb (p := 736) (i := 20) ch_code_736 rfl)
theorem dL_law_757 : decode code 757 = .ok (.bipush 32, 2) := do_16 (rdb (p := 736) (i := 21) ch_code_736 rfl) (rdb (p := 736) (i := 22) ch_code_736 rfl) (by decide +kernel)
theorem dL_law_759 : decode code 759 = .ok (.lshl, 1) := do_121 (rdb (p := 736) (i := 23) ch_code_736 rfl)
theorem dL_law_760 : decode code 760 = .ok (.aload_n 0, 1) := do_42 (rdb (p := 736) (i := 24) ch_code_736 rfl)
theorem dL_law_761 : decode code 761 = .ok (.iload_n 3, 1) := do_29 (rdb (p := 736) (i := 25) ch_code_736 rfl)
theorem dL_law_762 : decode code 762 = .ok (.iconst 2, 1) := do_5 (rdb (p := 736) (i := 26) ch_code_736 rfl)
theorem dL_law_763 : decode code 763 = .ok (.iadd, 1) := do_96 (rdb (p := 736) (i := 27) ch_code_736 rfl)
theorem dL_law_764 : decode code 764 = .ok (.iaload, 1) := do_46 (rdb (p := 736) (i := 28) ch_code_736 rfl)
theorem dL_law_765 : decode code 765 = .ok (.i2l, 1) := do_133 (rdb (p := 736) (i := 29) ch_code_736 rfl)
theorem dL_law_766 : decode code 766 = .ok (.ldc2_w 74, 3) := do_20 (rdb (p := 736) (i := 30) ch_code_736 rfl) (rdb (p := 736) (i := 31) ch_code_736 rfl) (rdb (p := 736) (i := 32) ch_code_736 rfl) rfl
theorem ch_code_768 : (code.data.toList.drop 768).take 36 = [74, 127, 129, 42, 29, 6, 96, 46, 182, 0, 80, 87, 167, 3, 183, 43, 42, 29, 4, 96, 46, 182, 0, 81, 44, 42, 29, 4, 96, 46, 182, 0, 84, 159, 3, 162] := by decide +kernel
theorem dL_law_769 : decode code 769 = .ok (.land, 1) := do_127 (rdb (p := 768) (i := 1) ch_code_768 rfl)
theorem dL_law_770 : decode code 770 = .ok (.lor, 1) := do_129 (rdb (p := 768) (i := 2) ch_code_768 rfl)
theorem dL_law_771 : decode code 771 = .ok (.aload_n 0, 1) := do_42 (rdb (p := 768) (i := 3) ch_code_768 rfl)
theorem dL_law_772 : decode code 772 = .ok (.iload_n 3, 1) := do_29 (rdb (p := 768) (i := 4) ch_code_768 rfl)
theorem dL_law_773 : decode code 773 = .ok (.iconst 3, 1) := do_6 (rdb (p := 768) (i := 5) ch_code_768 rfl)
theorem dL_law_774 : decode code 774 = .ok (.iadd, 1) := do_96 (rdb (p := 768) (i := 6) ch_code_768 rfl)
theorem dL_law_775 : decode code 775 = .ok (.iaload, 1) := do_46 (rdb (p := 768) (i := 7) ch_code_768 rfl)
theorem dL_law_776 : decode code 776 = .ok (.invokevirtual 80, 3) := do_182 (rdb (p := 768) (i := 8) ch_code_768 rfl) (rdb (p := 768) (i := 9) ch_code_768 rfl) (rdb (p := 768) (i := 10) ch_code_768 rfl) rfl
theorem dL_law_779 : decode code 779 = .ok (.pop, 1) := do_87 (rdb (p := 768) (i := 11) ch_code_768 rfl)
theorem dL_law_780 : decode code 780 = .ok (.goto 951, 3) := do_167 (rdb (p := 768) (i := 12) ch_code_768 rfl) (rdb (p := 768) (i := 13) ch_code_768 rfl) (rdb (p := 768) (i := 14) ch_code_768 rfl) (by decide +kernel)
theorem dL_law_783 : decode code 783 = .ok (.aload_n 1, 1) := do_43 (rdb (p := 768) (i := 15) ch_code_768 rfl)
theorem dL_law_784 : decode code 784 = .ok (.aload_n 0, 1) := do_42 (rdb (p := 768) (i := 16) ch_code_768 rfl)
theorem dL_law_785 : decode code 785 = .ok (.iload_n 3, 1) := do_29 (rdb (p := 768) (i := 17) ch_code_768 rfl)
theorem dL_law_786 : decode code 786 = .ok (.iconst 1, 1) := do_4 (rdb (p := 768) (i := 18) ch_code_768 rfl)
theorem dL_law_787 : decode code 787 = .ok (.iadd, 1) := do_96 (rdb (p := 768) (i := 19) ch_code_768 rfl)
theorem dL_law_788 : decode code 788 = .ok (.iaload, 1) := do_46 (rdb (p := 768) (i := 20) ch_code_768 rfl)
theorem dL_law_789 : decode code 789 = .ok (.invokevirtual 81, 3) := do_182 (rdb (p := 768) (i := 21) ch_code_768 rfl) (rdb (p := 768) (i := 22) ch_code_768 rfl) (rdb (p := 768) (i := 23) ch_code_768 rfl) rfl
theorem dL_law_792 : decode code 792 = .ok (.aload_n 2, 1) := do_44 (rdb (p := 768) (i := 24) ch_code_768 rfl)
theorem dL_law_793 : decode code 793 = .ok (.aload_n 0, 1) := do_42 (rdb (p := 768) (i := 25) ch_code_768 rfl)
theorem dL_law_794 : decode code 794 = .ok (.iload_n 3, 1) := do_29 (rdb (p := 768) (i := 26) ch_code_768 rfl)
theorem dL_law_795 : decode code 795 = .ok (.iconst 1, 1) := do_4 (rdb (p := 768) (i := 27) ch_code_768 rfl)
theorem dL_law_796 : decode code 796 = .ok (.iadd, 1) := do_96 (rdb (p := 768) (i := 28) ch_code_768 rfl)
theorem dL_law_797 : decode code 797 = .ok (.iaload, 1) := do_46 (rdb (p := 768) (i := 29) ch_code_768 rfl)
theorem dL_law_798 : decode code 798 = .ok (.invokevirtual 84, 3) := do_182 (rdb (p := 768) (i := 30) ch_code_768 rfl) (rdb (p := 768) (i := 31) ch_code_768 rfl) (rdb (p := 768) (i := 32) ch_code_768 rfl) rfl
theorem ch_code_800 : (code.data.toList.drop 800).take 36 = [84, 159, 3, 162, 3, 172, 43, 42, 29, 4, 96, 46, 42, 29, 5, 96, 46, 42, 29, 6, 96, 46, 42, 29, 7, 96, 46, 182, 0, 85, 87, 44, 42, 29, 4, 96] := by decide +kernel
theorem dL_law_801 : decode code 801 = .ok (.if_icmp .eq 930, 3) := do_159 (rdb (p := 800) (i := 1) ch_code_800 rfl) (rdb (p := 800) (i := 2) ch_code_800 rfl) (rdb (p := 800) (i := 3) ch_code_800 rfl) (by decide +kernel)
theorem dL_law_806 : decode code 806 = .ok (.aload_n 1, 1) := do_43 (rdb (p := 800) (i := 6) ch_code_800 rfl)
theorem dL_law_807 : decode code 807 = .ok (.aload_n 0, 1) := do_42 (rdb (p := 800) (i := 7) ch_code_800 rfl)
theorem dL_law_808 : decode code 808 = .ok (.iload_n 3, 1) := do_29 (rdb (p := 800) (i := 8) ch_code_800 rfl)
theorem dL_law_809 : decode code 809 = .ok (.iconst 1, 1) := do_4 (rdb (p := 800) (i := 9) ch_code_800 rfl)
theorem dL_law_810 : decode code 810 = .ok (.iadd, 1) := do_96 (rdb (p := 800) (i := 10) ch_code_800 rfl)
theorem dL_law_811 : decode code 811 = .ok (.iaload, 1) := do_46 (rdb (p := 800) (i := 11) ch_code_800 rfl)
theorem dL_law_812 : decode code 812 = .ok (.aload_n 0, 1) := do_42 (rdb (p := 800) (i := 12) ch_code_800 rfl)
theorem dL_law_813 : decode code 813 = .ok (.iload_n 3, 1) := do_29 (rdb (p := 800) (i := 13) ch_code_800 rfl)
theorem dL_law_814 : decode code 814 = .ok (.iconst 2, 1) := do_5 (rdb (p := 800) (i := 14) ch_code_800 rfl)
theorem dL_law_815 : decode code 815 = .ok (.iadd, 1) := do_96 (rdb (p := 800) (i := 15) ch_code_800 rfl)
theorem dL_law_816 : decode code 816 = .ok (.iaload, 1) := do_46 (rdb (p := 800) (i := 16) ch_code_800 rfl)
theorem dL_law_817 : decode code 817 = .ok (.aload_n 0, 1) := do_42 (rdb (p := 800) (i := 17) ch_code_800 rfl)
theorem dL_law_818 : decode code 818 = .ok (.iload_n 3, 1) := do_29 (rdb (p := 800) (i := 18) ch_code_800 rfl)
theorem dL_law_819 : decode code 819 = .ok (.iconst 3, 1) := do_6 (rdb (p := 800) (i := 19) ch_code_800 rfl)
theorem dL_law_820 : decode code 820 = .ok (.iadd, 1) := do_96 (rdb (p := 800) (i := 20) ch_code_800 rfl)
theorem dL_law_821 : decode code 821 = .ok (.iaload, 1) := do_46 (rdb (p := 800) (i := 21) ch_code_800 rfl)
theorem dL_law_822 : decode code 822 = .ok (.aload_n 0, 1) := do_42 (rdb (p := 800) (i := 22) ch_code_800 rfl)
theorem dL_law_823 : decode code 823 = .ok (.iload_n 3, 1) := do_29 (rdb (p := 800) (i := 23) ch_code_800 rfl)
theorem dL_law_824 : decode code 824 = .ok (.iconst 4, 1) := do_7 (rdb (p := 800) (i := 24) ch_code_800 rfl)
theorem dL_law_825 : decode code 825 = .ok (.iadd, 1) := do_96 (rdb (p := 800) (i := 25) ch_code_800 rfl)
theorem dL_law_826 : decode code 826 = .ok (.iaload, 1) := do_46 (rdb (p := 800) (i := 26) ch_code_800 rfl)
theorem dL_law_827 : decode code 827 = .ok (.invokevirtual 85, 3) := do_182 (rdb (p := 800) (i := 27) ch_code_800 rfl) (rdb (p := 800) (i := 28) ch_code_800 rfl) (rdb (p := 800) (i := 29) ch_code_800 rfl) rfl
theorem dL_law_830 : decode code 830 = .ok (.pop, 1) := do_87 (rdb (p := 800) (i := 30) ch_code_800 rfl)
theorem dL_law_831 : decode code 831 = .ok (.aload_n 2, 1) := do_44 (rdb (p := 800) (i := 31) ch_code_800 rfl)
theorem ch_code_832 : (code.data.toList.drop 832).take 36 = [42, 29, 4, 96, 46, 42, 29, 5, 96, 46, 42, 29, 6, 96, 46, 42, 29, 7, 96, 46, 182, 0, 88, 87, 167, 3, 107, 43, 42, 29, 4, 96, 46, 182, 0, 89] := by decide +kernel
theorem dL_law_832 : decode code 832 = .ok (.aload_n 0, 1) := do_42 (rdb (p := 832) (i := 0) ch_code_832 rfl)
theorem dL_law_833 : decode code 833 = .ok (.iload_n 3, 1) := do_29 (rdb (p := 832) (i := 1) ch_code_832 rfl)
theorem dL_law_834 : decode code 834 = .ok (.iconst 1, 1) := do_4 (rdb (p := 832) (i := 2) ch_code_832 rfl)
theorem dL_law_835 : decode code 835 = .ok (.iadd, 1) := do_96 (rdb (p := 832) (i := 3) ch_code_832 rfl)
theorem dL_law_836 : decode code 836 = .ok (.iaload, 1) := do_46 (rdb (p := 832) (i := 4) ch_code_832 rfl)
theorem dL_law_837 : decode code 837 = .ok (.aload_n 0, 1) := do_42 (rdb (p := 832) (i := 5) ch_code_832 rfl)
theorem dL_law_838 : decode code 838 = .ok (.iload_n 3, 1) := do_29 (rdb (p := 832) (i := 6) ch_code_832 rfl)
theorem dL_law_839 : decode code 839 = .ok (.iconst 2, 1) := do_5 (rdb (p := 832) (i := 7) ch_code_832 rfl)
theorem dL_law_840 : decode code 840 = .ok (.iadd, 1) := do_96 (rdb (p := 832) (i := 8) ch_code_832 rfl)
theorem dL_law_841 : decode code 841 = .ok (.iaload, 1) := do_46 (rdb (p := 832) (i := 9) ch_code_832 rfl)
theorem dL_law_842 : decode code 842 = .ok (.aload_n 0, 1) := do_42 (rdb (p := 832) (i := 10) ch_code_832 rfl)
theorem dL_law_843 : decode code 843 = .ok (.iload_n 3, 1) := do_29 (rdb (p := 832) (i := 11) ch_code_832 rfl)
theorem dL_law_844 : decode code 844 = .ok (.iconst 3, 1) := do_6 (rdb (p := 832) (i := 12) ch_code_832 rfl)
theorem dL_law_845 : decode code 845 = .ok (.iadd, 1) := do_96 (rdb (p := 832) (i := 13) ch_code_832 rfl)
theorem dL_law_846 : decode code 846 = .ok (.iaload, 1) := do_46 (rdb (p := 832) (i := 14) ch_code_832 rfl)
theorem dL_law_847 : decode code 847 = .ok (.aload_n 0, 1) := do_42 (rdb (p := 832) (i := 15) ch_code_832 rfl)
theorem dL_law_848 : decode code 848 = .ok (.iload_n 3, 1) := do_29 (rdb (p := 832) (i := 16) ch_code_832 rfl)
theorem dL_law_849 : decode code 849 = .ok (.iconst 4, 1) := do_7 (rdb (p := 832) (i := 17) ch_code_832 rfl)
theorem dL_law_850 : decode code 850 = .ok (.iadd, 1) := do_96 (rdb (p := 832) (i := 18) ch_code_832 rfl)
theorem dL_law_851 : decode code 851 = .ok (.iaload, 1) := do_46 (rdb (p := 832) (i := 19) ch_code_832 rfl)
theorem dL_law_852 : decode code 852 = .ok (.invokevirtual 88, 3) := do_182 (rdb (p := 832) (i := 20) ch_code_832 rfl) (rdb (p := 832) (i := 21) ch_code_832 rfl) (rdb (p := 832) (i := 22) ch_code_832 rfl) rfl
theorem dL_law_855 : decode code 855 = .ok (.pop, 1) := do_87 (rdb (p := 832) (i := 23) ch_code_832 rfl)
theorem dL_law_856 : decode code 856 = .ok (.goto 875, 3) := do_167 (rdb (p := 832) (i := 24) ch_code_832 rfl) (rdb (p := 832) (i := 25) ch_code_832 rfl) (rdb (p := 832) (i := 26) ch_code_832 rfl) (by decide +kernel)
theorem dL_law_859 : decode code 859 = .ok (.aload_n 1, 1) := do_43 (rdb (p := 832) (i := 27) ch_code_832 rfl)
theorem dL_law_860 : decode code 860 = .ok (.aload_n 0, 1) := do_42 (rdb (p := 832) (i := 28) ch_code_832 rfl)
theorem dL_law_861 : decode code 861 = .ok (.iload_n 3, 1) := do_29 (rdb (p := 832) (i := 29) ch_code_832 rfl)
theorem dL_law_862 : decode code 862 = .ok (.iconst 1, 1) := do_4 (rdb (p := 832) (i := 30) ch_code_832 rfl)
theorem dL_law_863 : decode code 863 = .ok (.iadd, 1) := do_96 (rdb (p := 832) (i := 31) ch_code_832 rfl)
theorem ch_code_864 : (code.data.toList.drop 864).take 36 = [46, 182, 0, 89, 87, 44, 42, 29, 4, 96, 46, 182, 0, 92, 87, 167, 3, 84, 43, 42, 29, 4, 96, 46, 42, 29, 5, 96, 46, 42, 29, 6, 96, 46, 182, 0] := by decide +kernel
theorem dL_law_864 : decode code 864 = .ok (.iaload, 1) := do_46 (rdb (p := 864) (i := 0) ch_code_864 rfl)
theorem dL_law_865 : decode code 865 = .ok (.invokevirtual 89, 3) := do_182 (rdb (p := 864) (i := 1) ch_code_864 rfl) (rdb (p := 864) (i := 2) ch_code_864 rfl) (rdb (p := 864) (i := 3) ch_code_864 rfl) rfl
theorem dL_law_868 : decode code 868 = .ok (.pop, 1) := do_87 (rdb (p := 864) (i := 4) ch_code_864 rfl)
theorem dL_law_869 : decode code 869 = .ok (.aload_n 2, 1) := do_44 (rdb (p := 864) (i := 5) ch_code_864 rfl)
theorem dL_law_870 : decode code 870 = .ok (.aload_n 0, 1) := do_42 (rdb (p := 864) (i := 6) ch_code_864 rfl)
theorem dL_law_871 : decode code 871 = .ok (.iload_n 3, 1) := do_29 (rdb (p := 864) (i := 7) ch_code_864 rfl)
theorem dL_law_872 : decode code 872 = .ok (.iconst 1, 1) := do_4 (rdb (p := 864) (i := 8) ch_code_864 rfl)
theorem dL_law_873 : decode code 873 = .ok (.iadd, 1) := do_96 (rdb (p := 864) (i := 9) ch_code_864 rfl)
theorem dL_law_874 : decode code 874 = .ok (.iaload, 1) := do_46 (rdb (p := 864) (i := 10) ch_code_864 rfl)
theorem dL_law_875 : decode code 875 = .ok (.invokevirtual 92, 3) := do_182 (rdb (p := 864) (i := 11) ch_code_864 rfl) (rdb (p := 864) (i := 12) ch_code_864 rfl) (rdb (p := 864) (i := 13) ch_code_864 rfl) rfl
theorem dL_law_878 : decode code 878 = .ok (.pop, 1) := do_87 (rdb (p := 864) (i := 14) ch_code_864 rfl)
theorem dL_law_879 : decode code 879 = .ok (.goto 852, 3) := do_167 (rdb (p := 864) (i := 15) ch_code_864 rfl) (rdb (p := 864) (i := 16) ch_code_864 rfl) (rdb (p := 864) (i := 17) ch_code_864 rfl) (by decide +kernel)
theorem dL_law_882 : decode code 882 = .ok (.aload_n 1, 1) := do_43 (rdb (p := 864) (i := 18) ch_code_864 rfl)
theorem dL_law_883 : decode code 883 = .ok (.aload_n 0, 1) := do_42 (rdb (p := 864) (i := 19) ch_code_864 rfl)
theorem dL_law_884 : decode code 884 = .ok (.iload_n 3, 1) := do_29 (rdb (p := 864) (i := 20) ch_code_864 rfl)
theorem dL_law_885 : decode code 885 = .ok (.iconst 1, 1) := do_4 (rdb (p := 864) (i := 21) ch_code_864 rfl)
theorem dL_law_886 : decode code 886 = .ok (.iadd, 1) := do_96 (rdb (p := 864) (i := 22) ch_code_864 rfl)
theorem dL_law_887 : decode code 887 = .ok (.iaload, 1) := do_46 (rdb (p := 864) (i := 23) ch_code_864 rfl)
theorem dL_law_888 : decode code 888 = .ok (.aload_n 0, 1) := do_42 (rdb (p := 864) (i := 24) ch_code_864 rfl)
theorem dL_law_889 : decode code 889 = .ok (.iload_n 3, 1) := do_29 (rdb (p := 864) (i := 25) ch_code_864 rfl)
theorem dL_law_890 : decode code 890 = .ok (.iconst 2, 1) := do_5 (rdb (p := 864) (i := 26) ch_code_864 rfl)
theorem dL_law_891 : decode code 891 = .ok (.iadd, 1) := do_96 (rdb (p := 864) (i := 27) ch_code_864 rfl)
theorem dL_law_892 : decode code 892 = .ok (.iaload, 1) := do_46 (rdb (p := 864) (i := 28) ch_code_864 rfl)
theorem dL_law_893 : decode code 893 = .ok (.aload_n 0, 1) := do_42 (rdb (p := 864) (i := 29) ch_code_864 rfl)
theorem dL_law_894 : decode code 894 = .ok (.iload_n 3, 1) := do_29 (rdb (p := 864) (i := 30) ch_code_864 rfl)
theorem dL_law_895 : decode code 895 = .ok (.iconst 3, 1) := do_6 (rdb (p := 864) (i := 31) ch_code_864 rfl)
theorem ch_code_896 : (code.data.toList.drop 896).take 36 = [96, 46, 182, 0, 93, 87, 44, 42, 29, 4, 96, 46, 42, 29, 5, 96, 46, 42, 29, 6, 96, 46, 182, 0, 96, 87, 167, 3, 41, 43, 42, 29, 4, 96, 46, 42] := by decide +kernel
theorem dL_law_896 : decode code 896 = .ok (.iadd, 1) := do_96 (rdb (p := 896) (i := 0) ch_code_896 rfl)
theorem dL_law_897 : decode code 897 = .ok (.iaload, 1) := do_46 (rdb (p := 896) (i := 1) ch_code_896 rfl)
theorem dL_law_898 : decode code 898 = .ok (.invokevirtual 93, 3) := do_182 (rdb (p := 896) (i := 2) ch_code_896 rfl) (rdb (p := 896) (i := 3) ch_code_896 rfl) (rdb (p := 896) (i := 4) ch_code_896 rfl) rfl
theorem dL_law_901 : decode code 901 = .ok (.pop, 1) := do_87 (rdb (p := 896) (i := 5) ch_code_896 rfl)
theorem dL_law_902 : decode code 902 = .ok (.aload_n 2, 1) := do_44 (rdb (p := 896) (i := 6) ch_code_896 rfl)
theorem dL_law_903 : decode code 903 = .ok (.aload_n 0, 1) := do_42 (rdb (p := 896) (i := 7) ch_code_896 rfl)
theorem dL_law_904 : decode code 904 = .ok (.iload_n 3, 1) := do_29 (rdb (p := 896) (i := 8) ch_code_896 rfl)
theorem dL_law_905 : decode code 905 = .ok (.iconst 1, 1) := do_4 (rdb (p := 896) (i := 9) ch_code_896 rfl)
theorem dL_law_906 : decode code 906 = .ok (.iadd, 1) := do_96 (rdb (p := 896) (i := 10) ch_code_896 rfl)
theorem dL_law_907 : decode code 907 = .ok (.iaload, 1) := do_46 (rdb (p := 896) (i := 11) ch_code_896 rfl)
theorem dL_law_908 : decode code 908 = .ok (.aload_n 0, 1) := do_42 (rdb (p := 896) (i := 12) ch_code_896 rfl)
theorem dL_law_909 : decode code 909 = .ok (.iload_n 3, 1) := do_29 (rdb (p := 896) (i := 13) ch_code_896 rfl)
theorem dL_law_910 : decode code 910 = .ok (.iconst 2, 1) := do_5 (rdb (p := 896) (i := 14) ch_code_896 rfl)
theorem dL_law_911 : decode code 911 = .ok (.iadd, 1) := do_96 (rdb (p := 896) (i := 15) ch_code_896 rfl)
theorem dL_law_912 : decode code 912 = .ok (.iaload, 1) := do_46 (rdb (p := 896) (i := 16) ch_code_896 rfl)
theorem dL_law_913 : decode code 913 = .ok (.aload_n 0, 1) := do_42 (rdb (p := 896) (i := 17) ch_code_896 rfl)
theorem dL_law_914 : decode code 914 = .ok (.iload_n 3, 1) := do_29 (rdb (p := 896) (i := 18) ch_code_896 rfl)
theorem dL_law_915 : decode code 915 = .ok (.iconst 3, 1) := do_6 (rdb (p := 896) (i := 19) ch_code_896 rfl)
theorem dL_law_916 : decode code 916 = .ok (.iadd, 1) := do_96 (rdb (p := 896) (i := 20) ch_code_896 rfl)
theorem dL_law_917 : decode code 917 = .ok (.iaload, 1) := do_46 (rdb (p := 896) (i := 21) ch_code_896 rfl)
theorem dL_law_918 : decode code 918 = .ok (.invokevirtual 96, 3) := do_182 (rdb (p := 896) (i := 22) ch_code_896 rfl) (rdb (p := 896) (i := 23) ch_code_896 rfl) (rdb (p := 896) (i := 24) ch_code_896 rfl) rfl
theorem dL_law_921 : decode code 921 = .ok (.pop, 1) := do_87 (rdb (p := 896) (i := 25) ch_code_896 rfl)
theorem dL_law_922 : decode code 922 = .ok (.goto 809, 3) := do_167 (rdb (p := 896) (i := 26) ch_code_896 rfl) (rdb (p := 896) (i := 27) ch_code_896 rfl) (rdb (p := 896) (i := 28) ch_code_896 rfl) (by decide +kernel)
theorem dL_law_925 : decode code 925 = .ok (.aload_n 1, 1) := do_43 (rdb (p := 896) (i := 29) ch_code_896 rfl)
theorem dL_law_926 : decode code 926 = .ok (.aload_n 0, 1) := do_42 (rdb (p := 896) (i := 30) ch_code_896 rfl)
theorem dL_law_927 : decode code 927 = .ok (.iload_n 3, 1) := do_29 (rdb (p := 896) (i := 31) ch_code_896 rfl)
theorem ch_code_928 : (code.data.toList.drop 928).take 36 = [4, 96, 46, 42, 29, 5, 96, 46, 182, 0, 97, 87, 44, 42, 29, 4, 96, 46, 42, 29, 5, 96, 46, 182, 0, 100, 87, 167, 3, 8, 43, 42, 29, 4, 96, 46] := by decide +kernel
theorem dL_law_928 : decode code 928 = .ok (.iconst 1, 1) := do_4 (rdb (p := 928) (i := 0) ch_code_928 rfl)
theorem dL_law_929 : decode code 929 = .ok (.iadd, 1) := do_96 (rdb (p := 928) (i := 1) ch_code_928 rfl)
theorem dL_law_930 : decode code 930 = .ok (.iaload, 1) := do_46 (rdb (p := 928) (i := 2) ch_code_928 rfl)
theorem dL_law_931 : decode code 931 = .ok (.aload_n 0, 1) := do_42 (rdb (p := 928) (i := 3) ch_code_928 rfl)
theorem dL_law_932 : decode code 932 = .ok (.iload_n 3, 1) := do_29 (rdb (p := 928) (i := 4) ch_code_928 rfl)
theorem dL_law_933 : decode code 933 = .ok (.iconst 2, 1) := do_5 (rdb (p := 928) (i := 5) ch_code_928 rfl)
theorem dL_law_934 : decode code 934 = .ok (.iadd, 1) := do_96 (rdb (p := 928) (i := 6) ch_code_928 rfl)
theorem dL_law_935 : decode code 935 = .ok (.iaload, 1) := do_46 (rdb (p := 928) (i := 7) ch_code_928 rfl)
theorem dL_law_936 : decode code 936 = .ok (.invokevirtual 97, 3) := do_182 (rdb (p := 928) (i := 8) ch_code_928 rfl) (rdb (p := 928) (i := 9) ch_code_928 rfl) (rdb (p := 928) (i := 10) ch_code_928 rfl) rfl
theorem dL_law_939 : decode code 939 = .ok (.pop, 1) := do_87 (rdb (p := 928) (i := 11) ch_code_928 rfl)
theorem dL_law_940 : decode code 940 = .ok (.aload_n 2, 1) := do_44 (rdb (p := 928) (i := 12) ch_code_928 rfl)
theorem dL_law_941 : decode code 941 = .ok (.aload_n 0, 1) := do_42 (rdb (p := 928) (i := 13) ch_code_928 rfl)
theorem dL_law_942 : decode code 942 = .ok (.iload_n 3, 1) := do_29 (rdb (p := 928) (i := 14) ch_code_928 rfl)
theorem dL_law_943 : decode code 943 = .ok (.iconst 1, 1) := do_4 (rdb (p := 928) (i := 15) ch_code_928 rfl)
theorem dL_law_944 : decode code 944 = .ok (.iadd, 1) := do_96 (rdb (p := 928) (i := 16) ch_code_928 rfl)
theorem dL_law_945 : decode code 945 = .ok (.iaload, 1) := do_46 (rdb (p := 928) (i := 17) ch_code_928 rfl)
theorem dL_law_946 : decode code 946 = .ok (.aload_n 0, 1) := do_42 (rdb (p := 928) (i := 18) ch_code_928 rfl)
theorem dL_law_947 : decode code 947 = .ok (.iload_n 3, 1) := do_29 (rdb (p := 928) (i := 19) ch_code_928 rfl)
theorem dL_law_948 : decode code 948 = .ok (.iconst 2, 1) := do_5 (rdb (p := 928) (i := 20) ch_code_928 rfl)
theorem dL_law_949 : decode code 949 = .ok (.iadd, 1) := do_96 (rdb (p := 928) (i := 21) ch_code_928 rfl)
theorem dL_law_950 : decode code 950 = .ok (.iaload, 1) := do_46 (rdb (p := 928) (i := 22) ch_code_928 rfl)
theorem dL_law_951 : decode code 951 = .ok (.invokevirtual 100, 3) := do_182 (rdb (p := 928) (i := 23) ch_code_928 rfl) (rdb (p := 928) (i := 24) ch_code_928 rfl) (rdb (p := 928) (i := 25) ch_code_928 rfl) rfl
theorem dL_law_954 : decode code 954 = .ok (.pop, 1) := do_87 (rdb (p := 928) (i := 26) ch_code_928 rfl)
theorem dL_law_955 : decode code 955 = .ok (.goto 776, 3) := do_167 (rdb (p := 928) (i := 27) ch_code_928 rfl) (rdb (p := 928) (i := 28) ch_code_928 rfl) (rdb (p := 928) (i := 29) ch_code_928 rfl) (by decide +kernel)
theorem dL_law_958 : decode code 958 = .ok (.aload_n 1, 1) := do_43 (rdb (p := 928) (i := 30) ch_code_928 rfl)
theorem dL_law_959 : decode code 959 = .ok (.aload_n 0, 1) := do_42 (rdb (p := 928) (i := 31) ch_code_928 rfl)
theorem ch_code_960 : (code.data.toList.drop 960).take 36 = [29, 4, 96, 46, 42, 29, 5, 96, 46, 42, 29, 6, 96, 46, 42, 29, 7, 96, 46, 42, 29, 8, 96, 46, 182, 0, 101, 87, 44, 42, 29, 4, 96, 46, 42, 29] := by decide +kernel
theorem dL_law_960 : decode code 960 = .ok (.iload_n 3, 1) := do_29 (rdb (p := 960) (i := 0) ch_code_960 rfl)
theorem dL_law_961 : decode code 961 = .ok (.iconst 1, 1) := do_4 (rdb (p := 960) (i := 1) ch_code_960 rfl)
theorem dL_law_962 : decode code 962 = .ok (.iadd, 1) := do_96 (rdb (p := 960) (i := 2) ch_code_960 rfl)
theorem dL_law_963 : decode code 963 = .ok (.iaload, 1) := do_46 (rdb (p := 960) (i := 3) ch_code_960 rfl)
theorem dL_law_964 : decode code 964 = .ok (.aload_n 0, 1) := do_42 (rdb (p := 960) (i := 4) ch_code_960 rfl)
theorem dL_law_965 : decode code 965 = .ok (.iload_n 3, 1) := do_29 (rdb (p := 960) (i := 5) ch_code_960 rfl)
theorem dL_law_966 : decode code 966 = .ok (.iconst 2, 1) := do_5 (rdb (p := 960) (i := 6) ch_code_960 rfl)
theorem dL_law_967 : decode code 967 = .ok (.iadd, 1) := do_96 (rdb (p := 960) (i := 7) ch_code_960 rfl)
theorem dL_law_968 : decode code 968 = .ok (.iaload, 1) := do_46 (rdb (p := 960) (i := 8) ch_code_960 rfl)
theorem dL_law_969 : decode code 969 = .ok (.aload_n 0, 1) := do_42 (rdb (p := 960) (i := 9) ch_code_960 rfl)
theorem dL_law_970 : decode code 970 = .ok (.iload_n 3, 1) := do_29 (rdb (p := 960) (i := 10) ch_code_960 rfl)
theorem dL_law_971 : decode code 971 = .ok (.iconst 3, 1) := do_6 (rdb (p := 960) (i := 11) ch_code_960 rfl)
theorem dL_law_972 : decode code 972 = .ok (.iadd, 1) := do_96 (rdb (p := 960) (i := 12) ch_code_960 rfl)
theorem dL_law_973 : decode code 973 = .ok (.iaload, 1) := do_46 (rdb (p := 960) (i := 13) ch_code_960 rfl)
theorem dL_law_974 : decode code 974 = .ok (.aload_n 0, 1) := do_42 (rdb (p := 960) (i := 14) ch_code_960 rfl)
theorem dL_law_975 : decode code 975 = .ok (.iload_n 3, 1) := do_29 (rdb (p := 960) (i := 15) ch_code_960 rfl)
theorem dL_law_976 : decode code 976 = .ok (.iconst 4, 1) := do_7 (rdb (p := 960) (i := 16) ch_code_960 rfl)
theorem dL_law_977 : decode code 977 = .ok (.iadd, 1) := do_96 (rdb (p := 960) (i := 17) ch_code_960 rfl)
theorem dL_law_978 : decode code 978 = .ok (.iaload, 1) := do_46 (rdb (p := 960) (i := 18) ch_code_960 rfl)
theorem dL_law_979 : decode code 979 = .ok (.aload_n 0, 1) := do_42 (rdb (p := 960) (i := 19) ch_code_960 rfl)
theorem dL_law_980 : decode code 980 = .ok (.iload_n 3, 1) := do_29 (rdb (p := 960) (i := 20) ch_code_960 rfl)
theorem dL_law_981 : decode code 981 = .ok (.iconst 5, 1) := do_8 (rdb (p := 960) (i := 21) ch_code_960 rfl)
theorem dL_law_982 : decode code 982 = .ok (.iadd, 1) := do_96 (rdb (p := 960) (i := 22) ch_code_960 rfl)
theorem dL_law_983 : decode code 983 = .ok (.iaload, 1) := do_46 (rdb (p := 960) (i := 23) ch_code_960 rfl)
theorem dL_law_984 : decode code 984 = .ok (.invokevirtual 101, 3) := do_182 (rdb (p := 960) (i := 24) ch_code_960 rfl) (rdb (p := 960) (i := 25) ch_code_960 rfl) (rdb (p := 960) (i := 26) ch_code_960 rfl) rfl
theorem dL_law_987 : decode code 987 = .ok (.pop, 1) := do_87 (rdb (p := 960) (i := 27) ch_code_960 rfl)
theorem dL_law_988 : decode code 988 = .ok (.aload_n 2, 1) := do_44 (rdb (p := 960) (i := 28) ch_code_960 rfl)
theorem dL_law_989 : decode code 989 = .ok (.aload_n 0, 1) := do_42 (rdb (p := 960) (i := 29) ch_code_960 rfl)
theorem dL_law_990 : decode code 990 = .ok (.iload_n 3, 1) := do_29 (rdb (p := 960) (i := 30) ch_code_960 rfl)
theorem dL_law_991 : decode code 991 = .ok (.iconst 1, 1) := do_4 (rdb (p := 960) (i := 31) ch_code_960 rfl)
theorem ch_code_992 : (code.data.toList.drop 992).take 36 = [96, 46, 42, 29, 5, 96, 46, 42, 29, 6, 96, 46, 42, 29, 7, 96, 46, 42, 29, 8, 96, 46, 182, 0, 105, 87, 167, 2, 201, 43, 42, 29, 4, 96, 46, 42] := by decide +kernel
theorem dL_law_992 : decode code 992 = .ok (.iadd, 1) := do_96 (rdb (p := 992) (i := 0) ch_code_992 rfl)
theorem dL_law_993 : decode code 993 = .ok (.iaload, 1) := do_46 (rdb (p := 992) (i := 1) ch_code_992 rfl)
theorem dL_law_994 : decode code 994 = .ok (.aload_n 0, 1) := do_42 (rdb (p := 992) (i := 2) ch_code_992 rfl)
theorem dL_law_995 : decode code 995 = .ok (.iload_n 3, 1) := do_29 (rdb (p := 992) (i := 3) ch_code_992 rfl)
theorem dL_law_996 : decode code 996 = .ok (.iconst 2, 1) := do_5 (rdb (p := 992) (i := 4) ch_code_992 rfl)
theorem dL_law_997 : decode code 997 = .ok (.iadd, 1) := do_96 (rdb (p := 992) (i := 5) ch_code_992 rfl)
theorem dL_law_998 : decode code 998 = .ok (.iaload, 1) := do_46 (rdb (p := 992) (i := 6) ch_code_992 rfl)
theorem dL_law_999 : decode code 999 = .ok (.aload_n 0, 1) := do_42 (rdb (p := 992) (i := 7) ch_code_992 rfl)
theorem dL_law_1000 : decode code 1000 = .ok (.iload_n 3, 1) := do_29 (rdb (p := 992) (i := 8) ch_code_992 rfl)
theorem dL_law_1001 : decode code 1001 = .ok (.iconst 3, 1) := do_6 (rdb (p := 992) (i := 9) ch_code_992 rfl)
theorem dL_law_1002 : decode code 1002 = .ok (.iadd, 1) := do_96 (rdb (p := 992) (i := 10) ch_code_992 rfl)
theorem dL_law_1003 : decode code 1003 = .ok (.iaload, 1) := do_46 (rdb (p := 992) (i := 11) ch_code_992 rfl)
theorem dL_law_1004 : decode code 1004 = .ok (.aload_n 0, 1) := do_42 (rdb (p := 992) (i := 12) ch_code_992 rfl)
theorem dL_law_1005 : decode code 1005 = .ok (.iload_n 3, 1) := do_29 (rdb (p := 992) (i := 13) ch_code_992 rfl)
theorem dL_law_1006 : decode code 1006 = .ok (.iconst 4, 1) := do_7 (rdb (p := 992) (i := 14) ch_code_992 rfl)
theorem dL_law_1007 : decode code 1007 = .ok (.iadd, 1) := do_96 (rdb (p := 992) (i := 15) ch_code_992 rfl)
theorem dL_law_1008 : decode code 1008 = .ok (.iaload, 1) := do_46 (rdb (p := 992) (i := 16) ch_code_992 rfl)
theorem dL_law_1009 : decode code 1009 = .ok (.aload_n 0, 1) := do_42 (rdb (p := 992) (i := 17) ch_code_992 rfl)
theorem dL_law_1010 : decode code 1010 = .ok (.iload_n 3, 1) := do_29 (rdb (p := 992) (i := 18) ch_code_992 rfl)
theorem dL_law_1011 : decode code 1011 = .ok (.iconst 5, 1) := do_8 (rdb (p := 992) (i := 19) ch_code_992 rfl)
theorem dL_law_1012 : decode code 1012 = .ok (.iadd, 1) := do_96 (rdb (p := 992) (i := 20) ch_code_992 rfl)
theorem dL_law_1013 : decode code 1013 = .ok (.iaload, 1) := do_46 (rdb (p := 992) (i := 21) ch_code_992 rfl)
theorem dL_law_1014 : decode code 1014 = .ok (.invokevirtual 105, 3) := do_182 (rdb (p := 992) (i := 22) ch_code_992 rfl) (rdb (p := 992) (i := 23) ch_code_992 rfl) (rdb (p := 992) (i := 24) ch_code_992 rfl) rfl
theorem dL_law_1017 : decode code 1017 = .ok (.pop, 1) := do_87 (rdb (p := 992) (i := 25) ch_code_992 rfl)
theorem dL_law_1018 : decode code 1018 = .ok (.goto 713, 3) := do_167 (rdb (p := 992) (i := 26) ch_code_992 rfl) (rdb (p := 992) (i := 27) ch_code_992 rfl) (rdb (p := 992) (i := 28) ch_code_992 rfl) (by decide +kernel)
theorem dL_law_1021 : decode code 1021 = .ok (.aload_n 1, 1) := do_43 (rdb (p := 992) (i := 29) ch_code_992 rfl)
theorem dL_law_1022 : decode code 1022 = .ok (.aload_n 0, 1) := do_42 (rdb (p := 992) (i := 30) ch_code_992 rfl)
theorem dL_law_1023 : decode code 1023 = .ok (.iload_n 3, 1) := do_29 (rdb (p := 992) (i := 31) ch_code_992 rfl)
theorem ch_code_1024 : (code.data.toList.drop 1024).take 36 = [4, 96, 46, 42, 29, 5, 96, 46, 42, 29, 6, 96, 46, 42, 29, 7, 96, 46, 182, 0, 106, 87, 44, 42, 29, 4, 96, 46, 42, 29, 5, 96, 46, 42, 29, 6] := by decide +kernel
theorem dL_law_1024 : decode code 1024 = .ok (.iconst 1, 1) := do_4 (rdb (p := 1024) (i := 0) ch_code_1024 rfl)
theorem dL_law_1025 : decode code 1025 = .ok (.iadd, 1) := do_96 (rdb (p := 1024) (i := 1) ch_code_1024 rfl)
theorem dL_law_1026 : decode code 1026 = .ok (.iaload, 1) := do_46 (rdb (p := 1024) (i := 2) ch_code_1024 rfl)
theorem dL_law_1027 : decode code 1027 = .ok (.aload_n 0, 1) := do_42 (rdb (p := 1024) (i := 3) ch_code_1024 rfl)
theorem dL_law_1028 : decode code 1028 = .ok (.iload_n 3, 1) := do_29 (rdb (p := 1024) (i := 4) ch_code_1024 rfl)
theorem dL_law_1029 : decode code 1029 = .ok (.iconst 2, 1) := do_5 (rdb (p := 1024) (i := 5) ch_code_1024 rfl)
theorem dL_law_1030 : decode code 1030 = .ok (.iadd, 1) := do_96 (rdb (p := 1024) (i := 6) ch_code_1024 rfl)
theorem dL_law_1031 : decode code 1031 = .ok (.iaload, 1) := do_46 (rdb (p := 1024) (i := 7) ch_code_1024 rfl)
theorem dL_law_1032 : decode code 1032 = .ok (.aload_n 0, 1) := do_42 (rdb (p := 1024) (i := 8) ch_code_1024 rfl)
theorem dL_law_1033 : decode code 1033 = .ok (.iload_n 3, 1) := do_29 (rdb (p := 1024) (i := 9) ch_code_1024 rfl)
theorem dL_law_1034 : decode code 1034 = .ok (.iconst 3, 1) := do_6 (rdb (p := 1024) (i := 10) ch_code_1024 rfl)
theorem dL_law_1035 : decode code 1035 = .ok (.iadd, 1) := do_96 (rdb (p := 1024) (i := 11) ch_code_1024 rfl)
theorem dL_law_1036 : decode code 1036 = .ok (.iaload, 1) := do_46 (rdb (p := 1024) (i := 12) ch_code_1024 rfl)
theorem dL_law_1037 : decode code 1037 = .ok (.aload_n 0, 1) := do_42 (rdb (p := 1024) (i := 13) ch_code_1024 rfl)
theorem dL_law_1038 : decode code 1038 = .ok (.iload_n 3, 1) := do_29 (rdb (p := 1024) (i := 14) ch_code_1024 rfl)
theorem dL_law_1039 : decode code 1039 = .ok (.iconst 4, 1) := do_7 (rdb (p := 1024) (i := 15) ch_code_1024 rfl)
theorem dL_law_1040 : decode code 1040 = .ok (.iadd, 1) := do_96 (rdb (p := 1024) (i := 16) ch_code_1024 rfl)
theorem dL_law_1041 : decode code 1041 = .ok (.iaload, 1) := do_46 (rdb (p := 1024) (i := 17) ch_code_1024 rfl)
theorem dL_law_1042 : decode code 1042 = .ok (.invokevirtual 106, 3) := do_182 (rdb (p := 1024) (i := 18) ch_code_1024 rfl) (rdb (p := 1024) (i := 19) ch_code_1024 rfl) (rdb (p := 1024) (i := 20) ch_code_1024 rfl) rfl
theorem dL_law_1045 : decode code 1045 = .ok (.pop, 1) := do_87 (rdb (p := 1024) (i := 21) ch_code_1024 rfl)
theorem dL_law_1046 : decode code 1046 = .ok (.aload_n 2, 1) := do_44 (rdb (p := 1024) (i := 22) ch_code_1024 rfl)
theorem dL_law_1047 : decode code 1047 = .ok (.aload_n 0, 1) := do_42 (rdb (p := 1024) (i := 23) ch_code_1024 rfl)
theorem dL_law_1048 : decode code 1048 = .ok (.iload_n 3, 1) := do_29 (rdb (p := 1024) (i := 24) ch_code_1024 rfl)
theorem dL_law_1049 : decode code 1049 = .ok (.iconst 1, 1) := do_4 (rdb (p := 1024) (i := 25) ch_code_1024 rfl)
theorem dL_law_1050 : decode code 1050 = .ok (.iadd, 1) := do_96 (rdb (p := 1024) (i := 26) ch_code_1024 rfl)
theorem dL_law_1051 : decode code 1051 = .ok (.iaload, 1) := do_46 (rdb (p := 1024) (i := 27) ch_code_1024 rfl)
theorem dL_law_1052 : decode code 1052 = .ok (.aload_n 0, 1) := do_42 (rdb (p := 1024) (i := 28) ch_code_1024 rfl)
theorem dL_law_1053 : decode code 1053 = .ok (.iload_n 3, 1) := do_29 (rdb (p := 1024) (i := 29) ch_code_1024 rfl)
theorem dL_law_1054 : decode code 1054 = .ok (.iconst 2, 1) := do_5 (rdb (p := 1024) (i := 30) ch_code_1024 rfl)
theorem dL_law_1055 : decode code 1055 = .ok (.iadd, 1) := do_96 (rdb (p := 1024) (i := 31) ch_code_1024 rfl)
theorem ch_code_1056 : (code.data.toList.drop 1056).take 36 = [46, 42, 29, 6, 96, 46, 42, 29, 7, 96, 46, 182, 0, 109, 87, 167, 2, 148, 43, 42, 29, 4, 96, 46, 42, 29, 5, 96, 46, 42, 29, 6, 96, 46, 182, 0] := by decide +kernel
theorem dL_law_1056 : decode code 1056 = .ok (.iaload, 1) := do_46 (rdb (p := 1056) (i := 0) ch_code_1056 rfl)
theorem dL_law_1057 : decode code 1057 = .ok (.aload_n 0, 1) := do_42 (rdb (p := 1056) (i := 1) ch_code_1056 rfl)
theorem dL_law_1058 : decode code 1058 = .ok (.iload_n 3, 1) := do_29 (rdb (p := 1056) (i := 2) ch_code_1056 rfl)
theorem dL_law_1059 : decode code 1059 = .ok (.iconst 3, 1) := do_6 (rdb (p := 1056) (i := 3) ch_code_1056 rfl)
theorem dL_law_1060 : decode code 1060 = .ok (.iadd, 1) := do_96 (rdb (p := 1056) (i := 4) ch_code_1056 rfl)
theorem dL_law_1061 : decode code 1061 = .ok (.iaload, 1) := do_46 (rdb (p := 1056) (i := 5) ch_code_1056 rfl)
theorem dL_law_1062 : decode code 1062 = .ok (.aload_n 0, 1) := do_42 (rdb (p := 1056) (i := 6) ch_code_1056 rfl)
theorem dL_law_1063 : decode code 1063 = .ok (.iload_n 3, 1) := do_29 (rdb (p := 1056) (i := 7) ch_code_1056 rfl)
theorem dL_law_1064 : decode code 1064 = .ok (.iconst 4, 1) := do_7 (rdb (p := 1056) (i := 8) ch_code_1056 rfl)
theorem dL_law_1065 : decode code 1065 = .ok (.iadd, 1) := do_96 (rdb (p := 1056) (i := 9) ch_code_1056 rfl)
theorem dL_law_1066 : decode code 1066 = .ok (.iaload, 1) := do_46 (rdb (p := 1056) (i := 10) ch_code_1056 rfl)
theorem dL_law_1067 : decode code 1067 = .ok (.invokevirtual 109, 3) := do_182 (rdb (p := 1056) (i := 11) ch_code_1056 rfl) (rdb (p := 1056) (i := 12) ch_code_1056 rfl) (rdb (p := 1056) (i := 13) ch_code_1056 rfl) rfl
theorem dL_law_1070 : decode code 1070 = .ok (.pop, 1) := do_87 (rdb (p := 1056) (i := 14) ch_code_1056 rfl)
theorem dL_law_1071 : decode code 1071 = .ok (.goto 660, 3) := do_167 (rdb (p := 1056) (i := 15) ch_code_1056 rfl) (rdb (p := 1056) (i := 16) ch_code_1056 rfl) (rdb (p := 1056) (i := 17) ch_code_1056 rfl) (by decide +kernel)
theorem dL_law_1074 : decode code 1074 = .ok (.aload_n 1, 1) := do_43 (rdb (p := 1056) (i := 18) ch_code_1056 rfl)
theorem dL_law_1075 : decode code 1075 = .ok (.aload_n 0, 1) := do_42 (rdb (p := 1056) (i := 19) ch_code_1056 rfl)
theorem dL_law_1076 : decode code 1076 = .ok (.iload_n 3, 1) := do_29 (rdb (p := 1056) (i := 20) ch_code_1056 rfl)
theorem dL_law_1077 : decode code 1077 = .ok (.iconst 1, 1) := do_4 (rdb (p := 1056) (i := 21) ch_code_1056 rfl)
theorem dL_law_1078 : decode code 1078 = .ok (.iadd, 1) := do_96 (rdb (p := 1056) (i := 22) ch_code_1056 rfl)
theorem dL_law_1079 : decode code 1079 = .ok (.iaload, 1) := do_46 (rdb (p := 1056) (i := 23) ch_code_1056 rfl)
theorem dL_law_1080 : decode code 1080 = .ok (.aload_n 0, 1) := do_42 (rdb (p := 1056) (i := 24) ch_code_1056 rfl)
theorem dL_law_1081 : decode code 1081 = .ok (.iload_n 3, 1) := do_29 (rdb (p := 1056) (i := 25) ch_code_1056 rfl)
theorem dL_law_1082 : decode code 1082 = .ok (.iconst 2, 1) := do_5 (rdb (p := 1056) (i := 26) ch_code_1056 rfl)
theorem dL_law_1083 : decode code 1083 = .ok (.iadd, 1) := do_96 (rdb (p := 1056) (i := 27) ch_code_1056 rfl)
theorem dL_law_1084 : decode code 1084 = .ok (.iaload, 1) := do_46 (rdb (p := 1056) (i := 28) ch_code_1056 rfl)
theorem dL_law_1085 : decode code 1085 = .ok (.aload_n 0, 1) := do_42 (rdb (p := 1056) (i := 29) ch_code_1056 rfl)
theorem dL_law_1086 : decode code 1086 = .ok (.iload_n 3, 1) := do_29 (rdb (p := 1056) (i := 30) ch_code_1056 rfl)
theorem dL_law_1087 : decode code 1087 = .ok (.iconst 3, 1) := do_6 (rdb (p := 1056) (i := 31) ch_code_1056 rfl)
theorem ch_code_1088 : (code.data.toList.drop 1088).take 36 = [96, 46, 182, 0, 110, 87, 44, 42, 29, 4, 96, 46, 42, 29, 5, 96, 46, 42, 29, 6, 96, 46, 182, 0, 113, 87, 167, 2, 105, 43, 42, 29, 4, 96, 46, 42] := by decide +kernel
theorem dL_law_1088 : decode code 1088 = .ok (.iadd, 1) := do_96 (rdb (p := 1088) (i := 0) ch_code_1088 rfl)
theorem dL_law_1089 : decode code 1089 = .ok (.iaload, 1) := do_46 (rdb (p := 1088) (i := 1) ch_code_1088 rfl)
theorem dL_law_1090 : decode code 1090 = .ok (.invokevirtual 110, 3) := do_182 (rdb (p := 1088) (i := 2) ch_code_1088 rfl) (rdb (p := 1088) (i := 3) ch_code_1088 rfl) (rdb (p := 1088) (i := 4) ch_code_1088 rfl) rfl
theorem dL_law_1093 : decode code 1093 = .ok (.pop, 1) := do_87 (rdb (p := 1088) (i := 5) ch_code_1088 rfl)
theorem dL_law_1094 : decode code 1094 = .ok (.aload_n 2, 1) := do_44 (rdb (p := 1088) (i := 6) ch_code_1088 rfl)
theorem dL_law_1095 : decode code 1095 = .ok (.aload_n 0, 1) := do_42 (rdb (p := 1088) (i := 7) ch_code_1088 rfl)
theorem dL_law_1096 : decode code 1096 = .ok (.iload_n 3, 1) := do_29 (rdb (p := 1088) (i := 8) ch_code_1088 rfl)
theorem dL_law_1097 : decode code 1097 = .ok (.iconst 1, 1) := do_4 (rdb (p := 1088) (i := 9) ch_code_1088 rfl)
theorem dL_law_1098 : decode code 1098 = .ok (.iadd, 1) := do_96 (rdb (p := 1088) (i := 10) ch_code_1088 rfl)
theorem dL_law_1099 : decode code 1099 = .ok (.iaload, 1) := do_46 (rdb (p := 1088) (i := 11) ch_code_1088 rfl)
theorem dL_law_1100 : decode code 1100 = .ok (.aload_n 0, 1) := do_42 (rdb (p := 1088) (i := 12) ch_code_1088 rfl)
theorem dL_law_1101 : decode code 1101 = .ok (.iload_n 3, 1) := do_29 (rdb (p := 1088) (i := 13) ch_code_1088 rfl)
theorem dL_law_1102 : decode code 1102 = .ok (.iconst 2, 1) := do_5 (rdb (p := 1088) (i := 14) ch_code_1088 rfl)
theorem dL_law_1103 : decode code 1103 = .ok (.iadd, 1) := do_96 (rdb (p := 1088) (i := 15) ch_code_1088 rfl)
theorem dL_law_1104 : decode code 1104 = .ok (.iaload, 1) := do_46 (rdb (p := 1088) (i := 16) ch_code_1088 rfl)
theorem dL_law_1105 : decode code 1105 = .ok (.aload_n 0, 1) := do_42 (rdb (p := 1088) (i := 17) ch_code_1088 rfl)
theorem dL_law_1106 : decode code 1106 = .ok (.iload_n 3, 1) := do_29 (rdb (p := 1088) (i := 18) ch_code_1088 rfl)
theorem dL_law_1107 : decode code 1107 = .ok (.iconst 3, 1) := do_6 (rdb (p := 1088) (i := 19) ch_code_1088 rfl)
theorem dL_law_1108 : decode code 1108 = .ok (.iadd, 1) := do_96 (rdb (p := 1088) (i := 20) ch_code_1088 rfl)
theorem dL_law_1109 : decode code 1109 = .ok (.iaload, 1) := do_46 (rdb (p := 1088) (i := 21) ch_code_1088 rfl)
theorem dL_law_1110 : decode code 1110 = .ok (.invokevirtual 113, 3) := do_182 (rdb (p := 1088) (i := 22) ch_code_1088 rfl) (rdb (p := 1088) (i := 23) ch_code_1088 rfl) (rdb (p := 1088) (i := 24) ch_code_1088 rfl) rfl
theorem dL_law_1113 : decode code 1113 = .ok (.pop, 1) := do_87 (rdb (p := 1088) (i := 25) ch_code_1088 rfl)
theorem dL_law_1114 : decode code 1114 = .ok (.goto 617, 3) := do_167 (rdb (p := 1088) (i := 26) ch_code_1088 rfl) (rdb (p := 1088) (i := 27) ch_code_1088 rfl) (rdb (p := 1088) (i := 28) ch_code_1088 rfl) (by decide +kernel)
theorem dL_law_1117 : decode code 1117 = .ok (.aload_n 1, 1) := do_43 (rdb (p := 1088) (i := 29) ch_code_1088 rfl)
theorem dL_law_1118 : decode code 1118 = .ok (.aload_n 0, 1) := do_42 (rdb (p := 1088) (i := 30) ch_code_1088 rfl)
theorem dL_law_1119 : decode code 1119 = .ok (.iload_n 3, 1) := do_29 (rdb (p := 1088) (i := 31) ch_code_1088 rfl)
theorem ch_code_1120 : (code.data.toList.drop 1120).take 36 = [4, 96, 46, 42, 29, 5, 96, 46, 42, 29, 6, 96, 46, 42, 29, 7, 96, 46, 182, 0, 114, 87, 44, 42, 29, 4, 96, 46, 42, 29, 5, 96, 46, 42, 29, 6] := by decide +kernel
theorem dL_law_1120 : decode code 1120 = .ok (.iconst 1, 1) := do_4 (rdb (p := 1120) (i := 0) ch_code_1120 rfl)
theorem dL_law_1121 : decode code 1121 = .ok (.iadd, 1) := do_96 (rdb (p := 1120) (i := 1) ch_code_1120 rfl)
theorem dL_law_1122 : decode code 1122 = .ok (.iaload, 1) := do_46 (rdb (p := 1120) (i := 2) ch_code_1120 rfl)
theorem dL_law_1123 : decode code 1123 = .ok (.aload_n 0, 1) := do_42 (rdb (p := 1120) (i := 3) ch_code_1120 rfl)
theorem dL_law_1124 : decode code 1124 = .ok (.iload_n 3, 1) := do_29 (rdb (p := 1120) (i := 4) ch_code_1120 rfl)
theorem dL_law_1125 : decode code 1125 = .ok (.iconst 2, 1) := do_5 (rdb (p := 1120) (i := 5) ch_code_1120 rfl)
theorem dL_law_1126 : decode code 1126 = .ok (.iadd, 1) := do_96 (rdb (p := 1120) (i := 6) ch_code_1120 rfl)
theorem dL_law_1127 : decode code 1127 = .ok (.iaload, 1) := do_46 (rdb (p := 1120) (i := 7) ch_code_1120 rfl)
theorem dL_law_1128 : decode code 1128 = .ok (.aload_n 0, 1) := do_42 (rdb (p := 1120) (i := 8) ch_code_1120 rfl)
theorem dL_law_1129 : decode code 1129 = .ok (.iload_n 3, 1) := do_29 (rdb (p := 1120) (i := 9) ch_code_1120 rfl)
theorem dL_law_1130 : decode code 1130 = .ok (.iconst 3, 1) := do_6 (rdb (p := 1120) (i := 10) ch_code_1120 rfl)
theorem dL_law_1131 : decode code 1131 = .ok (.iadd, 1) := do_96 (rdb (p := 1120) (i := 11) ch_code_1120 rfl)
theorem dL_law_1132 : decode code 1132 = .ok (.iaload, 1) := do_46 (rdb (p := 1120) (i := 12) ch_code_1120 rfl)
theorem dL_law_1133 : decode code 1133 = .ok (.aload_n 0, 1) := do_42 (rdb (p := 1120) (i := 13) ch_code_1120 rfl)
theorem dL_law_1134 : decode code 1134 = .ok (.iload_n 3, 1) := do_29 (rdb (p := 1120) (i := 14) ch_code_1120 rfl)
theorem dL_law_1135 : decode code 1135 = .ok (.iconst 4, 1) := do_7 (rdb (p := 1120) (i := 15) ch_code_1120 rfl)
theorem dL_law_1136 : decode code 1136 = .ok (.iadd, 1) := do_96 (rdb (p := 1120) (i := 16) ch_code_1120 rfl)
theorem dL_law_1137 : decode code 1137 = .ok (.iaload, 1) := do_46 (rdb (p := 1120) (i := 17) ch_code_1120 rfl)
theorem dL_law_1138 : decode code 1138 = .ok (.invokevirtual 114, 3) := do_182 (rdb (p := 1120) (i := 18) ch_code_1120 rfl) (rdb (p := 1120) (i := 19) ch_code_1120 rfl) (rdb (p := 1120) (i := 20) ch_code_1120 rfl) rfl
theorem dL_law_1141 : decode code 1141 = .ok (.pop, 1) := do_87 (rdb (p := 1120) (i := 21) ch_code_1120 rfl)
theorem dL_law_1142 : decode code 1142 = .ok (.aload_n 2, 1) := do_44 (rdb (p := 1120) (i := 22) ch_code_1120 rfl)
theorem dL_law_1143 : decode code 1143 = .ok (.aload_n 0, 1) := do_42 (rdb (p := 1120) (i := 23) ch_code_1120 rfl)
theorem dL_law_1144 : decode code 1144 = .ok (.iload_n 3, 1) := do_29 (rdb (p := 1120) (i := 24) ch_code_1120 rfl)
theorem dL_law_1145 : decode code 1145 = .ok (.iconst 1, 1) := do_4 (rdb (p := 1120) (i := 25) ch_code_1120 rfl)
theorem dL_law_1146 : decode code 1146 = .ok (.iadd, 1) := do_96 (rdb (p := 1120) (i := 26) ch_code_1120 rfl)
theorem dL_law_1147 : decode code 1147 = .ok (.iaload, 1) := do_46 (rdb (p := 1120) (i := 27) ch_code_1120 rfl)
theorem dL_law_1148 : decode code 1148 = .ok (.aload_n 0, 1) := do_42 (rdb (p := 1120) (i := 28) ch_code_1120 rfl)
theorem dL_law_1149 : decode code 1149 = .ok (.iload_n 3, 1) := do_29 (rdb (p := 1120) (i := 29) ch_code_1120 rfl)
theorem dL_law_1150 : decode code 1150 = .ok (.iconst 2, 1) := do_5 (rdb (p := 1120) (i := 30) ch_code_1120 rfl)
theorem dL_law_1151 : decode code 1151 = .ok (.iadd, 1) := do_96 (rdb (p := 1120) (i := 31) ch_code_1120 rfl)
theorem ch_code_1152 : (code.data.toList.drop 1152).take 36 = [46, 42, 29, 6, 96, 46, 42, 29, 7, 96, 46, 182, 0, 117, 87, 167, 2, 52, 43, 42, 29, 4, 96, 46, 182, 0, 118, 87, 44, 42, 29, 4, 96, 46, 182, 0] := by decide +kernel
theorem dL_law_1152 : decode code 1152 = .ok (.iaload, 1) := do_46 (rdb (p := 1152) (i := 0) ch_code_1152 rfl)
theorem dL_law_1153 : decode code 1153 = .ok (.aload_n 0, 1) := do_42 (rdb (p := 1152) (i := 1) ch_code_1152 rfl)
theorem dL_law_1154 : decode code 1154 = .ok (.iload_n 3, 1) := do_29 (rdb (p := 1152) (i := 2) ch_code_1152 rfl)
theorem dL_law_1155 : decode code 1155 = .ok (.iconst 3, 1) := do_6 (rdb (p := 1152) (i := 3) ch_code_1152 rfl)
theorem dL_law_1156 : decode code 1156 = .ok (.iadd, 1) := do_96 (rdb (p := 1152) (i := 4) ch_code_1152 rfl)
theorem dL_law_1157 : decode code 1157 = .ok (.iaload, 1) := do_46 (rdb (p := 1152) (i := 5) ch_code_1152 rfl)
theorem dL_law_1158 : decode code 1158 = .ok (.aload_n 0, 1) := do_42 (rdb (p := 1152) (i := 6) ch_code_1152 rfl)
theorem dL_law_1159 : decode code 1159 = .ok (.iload_n 3, 1) := do_29 (rdb (p := 1152) (i := 7) ch_code_1152 rfl)
theorem dL_law_1160 : decode code 1160 = .ok (.iconst 4, 1) := do_7 (rdb (p := 1152) (i := 8) ch_code_1152 rfl)
theorem dL_law_1161 : decode code 1161 = .ok (.iadd, 1) := do_96 (rdb (p := 1152) (i := 9) ch_code_1152 rfl)
theorem dL_law_1162 : decode code 1162 = .ok (.iaload, 1) := do_46 (rdb (p := 1152) (i := 10) ch_code_1152 rfl)
theorem dL_law_1163 : decode code 1163 = .ok (.invokevirtual 117, 3) := do_182 (rdb (p := 1152) (i := 11) ch_code_1152 rfl) (rdb (p := 1152) (i := 12) ch_code_1152 rfl) (rdb (p := 1152) (i := 13) ch_code_1152 rfl) rfl
theorem dL_law_1166 : decode code 1166 = .ok (.pop, 1) := do_87 (rdb (p := 1152) (i := 14) ch_code_1152 rfl)
theorem dL_law_1167 : decode code 1167 = .ok (.goto 564, 3) := do_167 (rdb (p := 1152) (i := 15) ch_code_1152 rfl) (rdb (p := 1152) (i := 16) ch_code_1152 rfl) (rdb (p := 1152) (i := 17) ch_code_1152 rfl) (by decide +kernel)
theorem dL_law_1170 : decode code 1170 = .ok (.aload_n 1, 1) := do_43 (rdb (p := 1152) (i := 18) ch_code_1152 rfl)
theorem dL_law_1171 : decode code 1171 = .ok (.aload_n 0, 1) := do_42 (rdb (p := 1152) (i := 19) ch_code_1152 rfl)
theorem dL_law_1172 : decode code 1172 = .ok (.iload_n 3, 1) := do_29 (rdb (p := 1152) (i := 20) ch_code_1152 rfl)
theorem dL_law_1173 : decode code 1173 = .ok (.iconst 1, 1) := do_4 (rdb (p := 1152) (i := 21) ch_code_1152 rfl)
theorem dL_law_1174 : decode code 1174 = .ok (.iadd, 1) := do_96 (rdb (p := 1152) (i := 22) ch_code_1152 rfl)
theorem dL_law_1175 : decode code 1175 = .ok (.iaload, 1) := do_46 (rdb (p := 1152) (i := 23) ch_code_1152 rfl)
theorem dL_law_1176 : decode code 1176 = .ok (.invokevirtual 118, 3) := do_182 (rdb (p := 1152) (i := 24) ch_code_1152 rfl) (rdb (p := 1152) (i := 25) ch_code_1152 rfl) (rdb (p := 1152) (i := 26) ch_code_1152 rfl) rfl
theorem dL_law_1179 : decode code 1179 = .ok (.pop, 1) := do_87 (rdb (p := 1152) (i := 27) ch_code_1152 rfl)
theorem dL_law_1180 : decode code 1180 = .ok (.aload_n 2, 1) := do_44 (rdb (p := 1152) (i := 28) ch_code_1152 rfl)
theorem dL_law_1181 : decode code 1181 = .ok (.aload_n 0, 1) := do_42 (rdb (p := 1152) (i := 29) ch_code_1152 rfl)
theorem dL_law_1182 : decode code 1182 = .ok (.iload_n 3, 1) := do_29 (rdb (p := 1152) (i := 30) ch_code_1152 rfl)
theorem dL_law_1183 : decode code 1183 = .ok (.iconst 1, 1) := do_4 (rdb (p := 1152) (i := 31) ch_code_1152 rfl)
theorem ch_code_1184 : (code.data.toList.drop 1184).take 36 = [96, 46, 182, 0, 121, 87, 167, 2, 29, 43, 42, 29, 4, 96, 46, 42, 29, 5, 96, 46, 42, 29, 6, 96, 46, 182, 0, 122, 87, 44, 42, 29, 4, 96, 46, 42] := by decide +kernel
theorem dL_law_1184 : decode code 1184 = .ok (.iadd, 1) := do_96 (rdb (p := 1184) (i := 0) ch_code_1184 rfl)
theorem dL_law_1185 : decode code 1185 = .ok (.iaload, 1) := do_46 (rdb (p := 1184) (i := 1) ch_code_1184 rfl)
theorem dL_law_1186 : decode code 1186 = .ok (.invokevirtual 121, 3) := do_182 (rdb (p := 1184) (i := 2) ch_code_1184 rfl) (rdb (p := 1184) (i := 3) ch_code_1184 rfl) (rdb (p := 1184) (i := 4) ch_code_1184 rfl) rfl
theorem dL_law_1189 : decode code 1189 = .ok (.pop, 1) := do_87 (rdb (p := 1184) (i := 5) ch_code_1184 rfl)
theorem dL_law_1190 : decode code 1190 = .ok (.goto 541, 3) := do_167 (rdb (p := 1184) (i := 6) ch_code_1184 rfl) (rdb (p := 1184) (i := 7) ch_code_1184 rfl) (rdb (p := 1184) (i := 8) ch_code_1184 rfl) (by decide +kernel)
theorem dL_law_1193 : decode code 1193 = .ok (.aload_n 1, 1) := do_43 (rdb (p := 1184) (i := 9) ch_code_1184 rfl)
theorem dL_law_1194 : decode code 1194 = .ok (.aload_n 0, 1) := do_42 (rdb (p := 1184) (i := 10) ch_code_1184 rfl)
theorem dL_law_1195 : decode code 1195 = .ok (.iload_n 3, 1) := do_29 (rdb (p := 1184) (i := 11) ch_code_1184 rfl)
theorem dL_law_1196 : decode code 1196 = .ok (.iconst 1, 1) := do_4 (rdb (p := 1184) (i := 12) ch_code_1184 rfl)
theorem dL_law_1197 : decode code 1197 = .ok (.iadd, 1) := do_96 (rdb (p := 1184) (i := 13) ch_code_1184 rfl)
theorem dL_law_1198 : decode code 1198 = .ok (.iaload, 1) := do_46 (rdb (p := 1184) (i := 14) ch_code_1184 rfl)
theorem dL_law_1199 : decode code 1199 = .ok (.aload_n 0, 1) := do_42 (rdb (p := 1184) (i := 15) ch_code_1184 rfl)
theorem dL_law_1200 : decode code 1200 = .ok (.iload_n 3, 1) := do_29 (rdb (p := 1184) (i := 16) ch_code_1184 rfl)
theorem dL_law_1201 : decode code 1201 = .ok (.iconst 2, 1) := do_5 (rdb (p := 1184) (i := 17) ch_code_1184 rfl)
theorem dL_law_1202 : decode code 1202 = .ok (.iadd, 1) := do_96 (rdb (p := 1184) (i := 18) ch_code_1184 rfl)
theorem dL_law_1203 : decode code 1203 = .ok (.iaload, 1) := do_46 (rdb (p := 1184) (i := 19) ch_code_1184 rfl)
theorem dL_law_1204 : decode code 1204 = .ok (.aload_n 0, 1) := do_42 (rdb (p := 1184) (i := 20) ch_code_1184 rfl)
theorem dL_law_1205 : decode code 1205 = .ok (.iload_n 3, 1) := do_29 (rdb (p := 1184) (i := 21) ch_code_1184 rfl)
theorem dL_law_1206 : decode code 1206 = .ok (.iconst 3, 1) := do_6 (rdb (p := 1184) (i := 22) ch_code_1184 rfl)
theorem dL_law_1207 : decode code 1207 = .ok (.iadd, 1) := do_96 (rdb (p := 1184) (i := 23) ch_code_1184 rfl)
theorem dL_law_1208 : decode code 1208 = .ok (.iaload, 1) := do_46 (rdb (p := 1184) (i := 24) ch_code_1184 rfl)
theorem dL_law_1209 : decode code 1209 = .ok (.invokevirtual 122, 3) := do_182 (rdb (p := 1184) (i := 25) ch_code_1184 rfl) (rdb (p := 1184) (i := 26) ch_code_1184 rfl) (rdb (p := 1184) (i := 27) ch_code_1184 rfl) rfl
theorem dL_law_1212 : decode code 1212 = .ok (.pop, 1) := do_87 (rdb (p := 1184) (i := 28) ch_code_1184 rfl)
theorem dL_law_1213 : decode code 1213 = .ok (.aload_n 2, 1) := do_44 (rdb (p := 1184) (i := 29) ch_code_1184 rfl)
theorem dL_law_1214 : decode code 1214 = .ok (.aload_n 0, 1) := do_42 (rdb (p := 1184) (i := 30) ch_code_1184 rfl)
theorem dL_law_1215 : decode code 1215 = .ok (.iload_n 3, 1) := do_29 (rdb (p := 1184) (i := 31) ch_code_1184 rfl)
theorem ch_code_1216 : (code.data.toList.drop 1216).take 36 = [4, 96, 46, 42, 29, 5, 96, 46, 42, 29, 6, 96, 46, 182, 0, 125, 87, 167, 1, 242, 43, 42, 29, 4, 96, 46, 182, 0, 126, 87, 44, 42, 29, 4, 96, 46] := by decide +kernel
theorem dL_law_1216 : decode code 1216 = .ok (.iconst 1, 1) := do_4 (rdb (p := 1216) (i := 0) ch_code_1216 rfl)
theorem dL_law_1217 : decode code 1217 = .ok (.iadd, 1) := do_96 (rdb (p := 1216) (i := 1) ch_code_1216 rfl)
theorem dL_law_1218 : decode code 1218 = .ok (.iaload, 1) := do_46 (rdb (p := 1216) (i := 2) ch_code_1216 rfl)
theorem dL_law_1219 : decode code 1219 = .ok (.aload_n 0, 1) := do_42 (rdb (p := 1216) (i := 3) ch_code_1216 rfl)
theorem dL_law_1220 : decode code 1220 = .ok (.iload_n 3, 1) := do_29 (rdb (p := 1216) (i := 4) ch_code_1216 rfl)
theorem dL_law_1221 : decode code 1221 = .ok (.iconst 2, 1) := do_5 (rdb (p := 1216) (i := 5) ch_code_1216 rfl)
theorem dL_law_1222 : decode code 1222 = .ok (.iadd, 1) := do_96 (rdb (p := 1216) (i := 6) ch_code_1216 rfl)
theorem dL_law_1223 : decode code 1223 = .ok (.iaload, 1) := do_46 (rdb (p := 1216) (i := 7) ch_code_1216 rfl)
theorem dL_law_1224 : decode code 1224 = .ok (.aload_n 0, 1) := do_42 (rdb (p := 1216) (i := 8) ch_code_1216 rfl)
theorem dL_law_1225 : decode code 1225 = .ok (.iload_n 3, 1) := do_29 (rdb (p := 1216) (i := 9) ch_code_1216 rfl)
theorem dL_law_1226 : decode code 1226 = .ok (.iconst 3, 1) := do_6 (rdb (p := 1216) (i := 10) ch_code_1216 rfl)
theorem dL_law_1227 : decode code 1227 = .ok (.iadd, 1) := do_96 (rdb (p := 1216) (i := 11) ch_code_1216 rfl)
theorem dL_law_1228 : decode code 1228 = .ok (.iaload, 1) := do_46 (rdb (p := 1216) (i := 12) ch_code_1216 rfl)
theorem dL_law_1229 : decode code 1229 = .ok (.invokevirtual 125, 3) := do_182 (rdb (p := 1216) (i := 13) ch_code_1216 rfl) (rdb (p := 1216) (i := 14) ch_code_1216 rfl) (rdb (p := 1216) (i := 15) ch_code_1216 rfl) rfl
theorem dL_law_1232 : decode code 1232 = .ok (.pop, 1) := do_87 (rdb (p := 1216) (i := 16) ch_code_1216 rfl)
theorem dL_law_1233 : decode code 1233 = .ok (.goto 498, 3) := do_167 (rdb (p := 1216) (i := 17) ch_code_1216 rfl) (rdb (p := 1216) (i := 18) ch_code_1216 rfl) (rdb (p := 1216) (i := 19) ch_code_1216 rfl) (by decide +kernel)
theorem dL_law_1236 : decode code 1236 = .ok (.aload_n 1, 1) := do_43 (rdb (p := 1216) (i := 20) ch_code_1216 rfl)
theorem dL_law_1237 : decode code 1237 = .ok (.aload_n 0, 1) := do_42 (rdb (p := 1216) (i := 21) ch_code_1216 rfl)
theorem dL_law_1238 : decode code 1238 = .ok (.iload_n 3, 1) := do_29 (rdb (p := 1216) (i := 22) ch_code_1216 rfl)
theorem dL_law_1239 : decode code 1239 = .ok (.iconst 1, 1) := do_4 (rdb (p := 1216) (i := 23) ch_code_1216 rfl)
theorem dL_law_1240 : decode code 1240 = .ok (.iadd, 1) := do_96 (rdb (p := 1216) (i := 24) ch_code_1216 rfl)
theorem dL_law_1241 : decode code 1241 = .ok (.iaload, 1) := do_46 (rdb (p := 1216) (i := 25) ch_code_1216 rfl)
theorem dL_law_1242 : decode code 1242 = .ok (.invokevirtual 126, 3) := do_182 (rdb (p := 1216) (i := 26) ch_code_1216 rfl) (rdb (p := 1216) (i := 27) ch_code_1216 rfl) (rdb (p := 1216) (i := 28) ch_code_1216 rfl) rfl
theorem dL_law_1245 : decode code 1245 = .ok (.pop, 1) := do_87 (rdb (p := 1216) (i := 29) ch_code_1216 rfl)
theorem dL_law_1246 : decode code 1246 = .ok (.aload_n 2, 1) := do_44 (rdb (p := 1216) (i := 30) ch_code_1216 rfl)
theorem dL_law_1247 : decode code 1247 = .ok (.aload_n 0, 1) := do_42 (rdb (p := 1216) (i := 31) ch_code_1216 rfl)
theorem ch_code_1248 : (code.data.toList.drop 1248).take 36 = [29, 4, 96, 46, 182, 0, 129, 87, 167, 1, 219, 43, 42, 29, 4, 96, 46, 42, 29, 5, 96, 46, 42, 29, 6, 96, 46, 182, 0, 130, 87, 44, 42, 29, 4, 96] := by decide +kernel
theorem dL_law_1248 : decode code 1248 = .ok (.iload_n 3, 1) := do_29 (rdb (p := 1248) (i := 0) ch_code_1248 rfl)
theorem dL_law_1249 : decode code 1249 = .ok (.iconst 1, 1) := do_4 (rdb (p := 1248) (i := 1) ch_code_1248 rfl)
theorem dL_law_1250 : decode code 1250 = .ok (.iadd, 1) := do_96 (rdb (p := 1248) (i := 2) ch_code_1248 rfl)
theorem dL_law_1251 : decode code 1251 = .ok (.iaload, 1) := do_46 (rdb (p := 1248) (i := 3) ch_code_1248 rfl)
theorem dL_law_1252 : decode code 1252 = .ok (.invokevirtual 129, 3) := do_182 (rdb (p := 1248) (i := 4) ch_code_1248 rfl) (rdb (p := 1248) (i := 5) ch_code_1248 rfl) (rdb (p := 1248) (i := 6) ch_code_1248 rfl) rfl
theorem dL_law_1255 : decode code 1255 = .ok (.pop, 1) := do_87 (rdb (p := 1248) (i := 7) ch_code_1248 rfl)
theorem dL_law_1256 : decode code 1256 = .ok (.goto 475, 3) := do_167 (rdb (p := 1248) (i := 8) ch_code_1248 rfl) (rdb (p := 1248) (i := 9) ch_code_1248 rfl) (rdb (p := 1248) (i := 10) ch_code_1248 rfl) (by decide +kernel)
theorem dL_law_1259 : decode code 1259 = .ok (.aload_n 1, 1) := do_43 (rdb (p := 1248) (i := 11) ch_code_1248 rfl)
theorem dL_law_1260 : decode code 1260 = .ok (.aload_n 0, 1) := do_42 (rdb (p := 1248) (i := 12) ch_code_1248 rfl)
theorem dL_law_1261 : decode code 1261 = .ok (.iload_n 3, 1) := do_29 (rdb (p := 1248) (i := 13) ch_code_1248 rfl)
theorem dL_law_1262 : decode code 1262 = .ok (.iconst 1, 1) := do_4 (rdb (p := 1248) (i := 14) ch_code_1248 rfl)
theorem dL_law_1263 : decode code 1263 = .ok (.iadd, 1) := do_96 (rdb (p := 1248) (i := 15) ch_code_1248 rfl)
theorem dL_law_1264 : decode code 1264 = .ok (.iaload, 1) := do_46 (rdb (p := 1248) (i := 16) ch_code_1248 rfl)
theorem dL_law_1265 : decode code 1265 = .ok (.aload_n 0, 1) := do_42 (rdb (p := 1248) (i := 17) ch_code_1248 rfl)
theorem dL_law_1266 : decode code 1266 = .ok (.iload_n 3, 1) := do_29 (rdb (p := 1248) (i := 18) ch_code_1248 rfl)
theorem dL_law_1267 : decode code 1267 = .ok (.iconst 2, 1) := do_5 (rdb (p := 1248) (i := 19) ch_code_1248 rfl)
theorem dL_law_1268 : decode code 1268 = .ok (.iadd, 1) := do_96 (rdb (p := 1248) (i := 20) ch_code_1248 rfl)
theorem dL_law_1269 : decode code 1269 = .ok (.iaload, 1) := do_46 (rdb (p := 1248) (i := 21) ch_code_1248 rfl)
theorem dL_law_1270 : decode code 1270 = .ok (.aload_n 0, 1) := do_42 (rdb (p := 1248) (i := 22) ch_code_1248 rfl)
theorem dL_law_1271 : decode code 1271 = .ok (.iload_n 3, 1) := do_29 (rdb (p := 1248) (i := 23) ch_code_1248 rfl)
theorem dL_law_1272 : decode code 1272 = .ok (.iconst 3, 1) := do_6 (rdb (p := 1248) (i := 24) ch_code_1248 rfl)
theorem dL_law_1273 : decode code 1273 = .ok (.iadd, 1) := do_96 (rdb (p := 1248) (i := 25) ch_code_1248 rfl)
theorem dL_law_1274 : decode code 1274 = .ok (.iaload, 1) := do_46 (rdb (p := 1248) (i := 26) ch_code_1248 rfl)
theorem dL_law_1275 : decode code 1275 = .ok (.invokevirtual 130, 3) := do_182 (rdb (p := 1248) (i := 27) ch_code_1248 rfl) (rdb (p := 1248) (i := 28) ch_code_1248 rfl) (rdb (p := 1248) (i := 29) ch_code_1248 rfl) rfl
theorem dL_law_1278 : decode code 1278 = .ok (.pop, 1) := do_87 (rdb (p := 1248) (i := 30) ch_code_1248 rfl)
theorem dL_law_1279 : decode code 1279 = .ok (.aload_n 2, 1) := do_44 (rdb (p := 1248) (i := 31) ch_code_1248 rfl)
theorem ch_code_1280 : (code.data.toList.drop 1280).take 36 = [42, 29, 4, 96, 46, 42, 29, 5, 96, 46, 42, 29, 6, 96, 46, 182, 0, 133, 87, 167, 1, 176, 43, 42, 29, 4, 96, 46, 42, 29, 5, 96, 46, 42, 29, 6] := by decide +kernel
theorem dL_law_1280 : decode code 1280 = .ok (.aload_n 0, 1) := do_42 (rdb (p := 1280) (i := 0) ch_code_1280 rfl)
theorem dL_law_1281 : decode code 1281 = .ok (.iload_n 3, 1) := do_29 (rdb (p := 1280) (i := 1) ch_code_1280 rfl)
theorem dL_law_1282 : decode code 1282 = .ok (.iconst 1, 1) := do_4 (rdb (p := 1280) (i := 2) ch_code_1280 rfl)
theorem dL_law_1283 : decode code 1283 = .ok (.iadd, 1) := do_96 (rdb (p := 1280) (i := 3) ch_code_1280 rfl)
theorem dL_law_1284 : decode code 1284 = .ok (.iaload, 1) := do_46 (rdb (p := 1280) (i := 4) ch_code_1280 rfl)
theorem dL_law_1285 : decode code 1285 = .ok (.aload_n 0, 1) := do_42 (rdb (p := 1280) (i := 5) ch_code_1280 rfl)
theorem dL_law_1286 : decode code 1286 = .ok (.iload_n 3, 1) := do_29 (rdb (p := 1280) (i := 6) ch_code_1280 rfl)
theorem dL_law_1287 : decode code 1287 = .ok (.iconst 2, 1) := do_5 (rdb (p := 1280) (i := 7) ch_code_1280 rfl)
theorem dL_law_1288 : decode code 1288 = .ok (.iadd, 1) := do_96 (rdb (p := 1280) (i := 8) ch_code_1280 rfl)
theorem dL_law_1289 : decode code 1289 = .ok (.iaload, 1) := do_46 (rdb (p := 1280) (i := 9) ch_code_1280 rfl)
theorem dL_law_1290 : decode code 1290 = .ok (.aload_n 0, 1) := do_42 (rdb (p := 1280) (i := 10) ch_code_1280 rfl)
theorem dL_law_1291 : decode code 1291 = .ok (.iload_n 3, 1) := do_29 (rdb (p := 1280) (i := 11) ch_code_1280 rfl)
theorem dL_law_1292 : decode code 1292 = .ok (.iconst 3, 1) := do_6 (rdb (p := 1280) (i := 12) ch_code_1280 rfl)
theorem dL_law_1293 : decode code 1293 = .ok (.iadd, 1) := do_96 (rdb (p := 1280) (i := 13) ch_code_1280 rfl)
theorem dL_law_1294 : decode code 1294 = .ok (.iaload, 1) := do_46 (rdb (p := 1280) (i := 14) ch_code_1280 rfl)
theorem dL_law_1295 : decode code 1295 = .ok (.invokevirtual 133, 3) := do_182 (rdb (p := 1280) (i := 15) ch_code_1280 rfl) (rdb (p := 1280) (i := 16) ch_code_1280 rfl) (rdb (p := 1280) (i := 17) ch_code_1280 rfl) rfl
theorem dL_law_1298 : decode code 1298 = .ok (.pop, 1) := do_87 (rdb (p := 1280) (i := 18) ch_code_1280 rfl)
theorem dL_law_1299 : decode code 1299 = .ok (.goto 432, 3) := do_167 (rdb (p := 1280) (i := 19) ch_code_1280 rfl) (rdb (p := 1280) (i := 20) ch_code_1280 rfl) (rdb (p := 1280) (i := 21) ch_code_1280 rfl) (by decide +kernel)
theorem dL_law_1302 : decode code 1302 = .ok (.aload_n 1, 1) := do_43 (rdb (p := 1280) (i := 22) ch_code_1280 rfl)
theorem dL_law_1303 : decode code 1303 = .ok (.aload_n 0, 1) := do_42 (rdb (p := 1280) (i := 23) ch_code_1280 rfl)
theorem dL_law_1304 : decode code 1304 = .ok (.iload_n 3, 1) := do_29 (rdb (p := 1280) (i := 24) ch_code_1280 rfl)
theorem dL_law_1305 : decode code 1305 = .ok (.iconst 1, 1) := do_4 (rdb (p := 1280) (i := 25) ch_code_1280 rfl)
theorem dL_law_1306 : decode code 1306 = .ok (.iadd, 1) := do_96 (rdb (p := 1280) (i := 26) ch_code_1280 rfl)
theorem dL_law_1307 : decode code 1307 = .ok (.iaload, 1) := do_46 (rdb (p := 1280) (i := 27) ch_code_1280 rfl)
theorem dL_law_1308 : decode code 1308 = .ok (.aload_n 0, 1) := do_42 (rdb (p := 1280) (i := 28) ch_code_1280 rfl)
theorem dL_law_1309 : decode code 1309 = .ok (.iload_n 3, 1) := do_29 (rdb (p := 1280) (i := 29) ch_code_1280 rfl)
theorem dL_law_1310 : decode code 1310 = .ok (.iconst 2, 1) := do_5 (rdb (p := 1280) (i := 30) ch_code_1280 rfl)
theorem dL_law_1311 : decode code 1311 = .ok (.iadd, 1) := do_96 (rdb (p := 1280) (i := 31) ch_code_1280 rfl)
theorem ch_code_1312 : (code.data.toList.drop 1312).take 36 = [46, 42, 29, 6, 96, 46, 182, 0, 134, 87, 44, 42, 29, 4, 96, 46, 42, 29, 5, 96, 46, 42, 29, 6, 96, 46, 182, 0, 137, 87, 167, 1, 133, 43, 42, 29] := by decide +kernel
theorem dL_law_1312 : decode code 1312 = .ok (.iaload, 1) := do_46 (rdb (p := 1312) (i := 0) ch_code_1312 rfl)
theorem dL_law_1313 : decode code 1313 = .ok (.aload_n 0, 1) := do_42 (rdb (p := 1312) (i := 1) ch_code_1312 rfl)
theorem dL_law_1314 : decode code 1314 = .ok (.iload_n 3, 1) := do_29 (rdb (p := 1312) (i := 2) ch_code_1312 rfl)
theorem dL_law_1315 : decode code 1315 = .ok (.iconst 3, 1) := do_6 (rdb (p := 1312) (i := 3) ch_code_1312 rfl)
theorem dL_law_1316 : decode code 1316 = .ok (.iadd, 1) := do_96 (rdb (p := 1312) (i := 4) ch_code_1312 rfl)
theorem dL_law_1317 : decode code 1317 = .ok (.iaload, 1) := do_46 (rdb (p := 1312) (i := 5) ch_code_1312 rfl)
theorem dL_law_1318 : decode code 1318 = .ok (.invokevirtual 134, 3) := do_182 (rdb (p := 1312) (i := 6) ch_code_1312 rfl) (rdb (p := 1312) (i := 7) ch_code_1312 rfl) (rdb (p := 1312) (i := 8) ch_code_1312 rfl) rfl
theorem dL_law_1321 : decode code 1321 = .ok (.pop, 1) := do_87 (rdb (p := 1312) (i := 9) ch_code_1312 rfl)
theorem dL_law_1322 : decode code 1322 = .ok (.aload_n 2, 1) := do_44 (rdb (p := 1312) (i := 10) ch_code_1312 rfl)
theorem dL_law_1323 : decode code 1323 = .ok (.aload_n 0, 1) := do_42 (rdb (p := 1312) (i := 11) ch_code_1312 rfl)
theorem dL_law_1324 : decode code 1324 = .ok (.iload_n 3, 1) := do_29 (rdb (p := 1312) (i := 12) ch_code_1312 rfl)
theorem dL_law_1325 : decode code 1325 = .ok (.iconst 1, 1) := do_4 (rdb (p := 1312) (i := 13) ch_code_1312 rfl)
theorem dL_law_1326 : decode code 1326 = .ok (.iadd, 1) := do_96 (rdb (p := 1312) (i := 14) ch_code_1312 rfl)
theorem dL_law_1327 : decode code 1327 = .ok (.iaload, 1) := do_46 (rdb (p := 1312) (i := 15) ch_code_1312 rfl)
theorem dL_law_1328 : decode code 1328 = .ok (.aload_n 0, 1) := do_42 (rdb (p := 1312) (i := 16) ch_code_1312 rfl)
theorem dL_law_1329 : decode code 1329 = .ok (.iload_n 3, 1) := do_29 (rdb (p := 1312) (i := 17) ch_code_1312 rfl)
theorem dL_law_1330 : decode code 1330 = .ok (.iconst 2, 1) := do_5 (rdb (p := 1312) (i := 18) ch_code_1312 rfl)
theorem dL_law_1331 : decode code 1331 = .ok (.iadd, 1) := do_96 (rdb (p := 1312) (i := 19) ch_code_1312 rfl)
theorem dL_law_1332 : decode code 1332 = .ok (.iaload, 1) := do_46 (rdb (p := 1312) (i := 20) ch_code_1312 rfl)
theorem dL_law_1333 : decode code 1333 = .ok (.aload_n 0, 1) := do_42 (rdb (p := 1312) (i := 21) ch_code_1312 rfl)
theorem dL_law_1334 : decode code 1334 = .ok (.iload_n 3, 1) := do_29 (rdb (p := 1312) (i := 22) ch_code_1312 rfl)
theorem dL_law_1335 : decode code 1335 = .ok (.iconst 3, 1) := do_6 (rdb (p := 1312) (i := 23) ch_code_1312 rfl)
theorem dL_law_1336 : decode code 1336 = .ok (.iadd, 1) := do_96 (rdb (p := 1312) (i := 24) ch_code_1312 rfl)
theorem dL_law_1337 : decode code 1337 = .ok (.iaload, 1) := do_46 (rdb (p := 1312) (i := 25) ch_code_1312 rfl)
theorem dL_law_1338 : decode code 1338 = .ok (.invokevirtual 137, 3) := do_182 (rdb (p := 1312) (i := 26) ch_code_1312 rfl) (rdb (p := 1312) (i := 27) ch_code_1312 rfl) (rdb (p := 1312) (i := 28) ch_code_1312 rfl) rfl
theorem dL_law_1341 : decode code 1341 = .ok (.pop, 1) := do_87 (rdb (p := 1312) (i := 29) ch_code_1312 rfl)
theorem dL_law_1342 : decode code 1342 = .ok (.goto 389, 3) := do_167 (rdb (p := 1312) (i := 30) ch_code_1312 rfl) (rdb (p := 1312) (i := 31) ch_code_1312 rfl) (rdb (p := 1312) (i := 32) ch_code_1312 rfl) (by decide +kernel)
theorem ch_code_1344 : (code.data.toList.drop 1344).take 36 = [133, 43, 42, 29, 4, 96, 46, 42, 29, 5, 96, 46, 42, 29, 6, 96, 46, 42, 29, 7, 96, 46, 182, 0, 138, 87, 44, 42, 29, 4, 96, 46, 42, 29, 5, 96] := by decide +kernel
theorem dL_law_1345 : decode code 1345 = .ok (.aload_n 1, 1) := do_43 (rdb (p := 1344) (i := 1) ch_code_1344 rfl)
theorem dL_law_1346 : decode code 1346 = .ok (.aload_n 0, 1) := do_42 (rdb (p := 1344) (i := 2) ch_code_1344 rfl)
theorem dL_law_1347 : decode code 1347 = .ok (.iload_n 3, 1) := do_29 (rdb (p := 1344) (i := 3) ch_code_1344 rfl)
theorem dL_law_1348 : decode code 1348 = .ok (.iconst 1, 1) := do_4 (rdb (p := 1344) (i := 4) ch_code_1344 rfl)
theorem dL_law_1349 : decode code 1349 = .ok (.iadd, 1) := do_96 (rdb (p := 1344) (i := 5) ch_code_1344 rfl)
theorem dL_law_1350 : decode code 1350 = .ok (.iaload, 1) := do_46 (rdb (p := 1344) (i := 6) ch_code_1344 rfl)
theorem dL_law_1351 : decode code 1351 = .ok (.aload_n 0, 1) := do_42 (rdb (p := 1344) (i := 7) ch_code_1344 rfl)
theorem dL_law_1352 : decode code 1352 = .ok (.iload_n 3, 1) := do_29 (rdb (p := 1344) (i := 8) ch_code_1344 rfl)
theorem dL_law_1353 : decode code 1353 = .ok (.iconst 2, 1) := do_5 (rdb (p := 1344) (i := 9) ch_code_1344 rfl)
theorem dL_law_1354 : decode code 1354 = .ok (.iadd, 1) := do_96 (rdb (p := 1344) (i := 10) ch_code_1344 rfl)
theorem dL_law_1355 : decode code 1355 = .ok (.iaload, 1) := do_46 (rdb (p := 1344) (i := 11) ch_code_1344 rfl)
theorem dL_law_1356 : decode code 1356 = .ok (.aload_n 0, 1) := do_42 (rdb (p := 1344) (i := 12) ch_code_1344 rfl)
theorem dL_law_1357 : decode code 1357 = .ok (.iload_n 3, 1) := do_29 (rdb (p := 1344) (i := 13) ch_code_1344 rfl)
theorem dL_law_1358 : decode code 1358 = .ok (.iconst 3, 1) := do_6 (rdb (p := 1344) (i := 14) ch_code_1344 rfl)
theorem dL_law_1359 : decode code 1359 = .ok (.iadd, 1) := do_96 (rdb (p := 1344) (i := 15) ch_code_1344 rfl)
theorem dL_law_1360 : decode code 1360 = .ok (.iaload, 1) := do_46 (rdb (p := 1344) (i := 16) ch_code_1344 rfl)
theorem dL_law_1361 : decode code 1361 = .ok (.aload_n 0, 1) := do_42 (rdb (p := 1344) (i := 17) ch_code_1344 rfl)
theorem dL_law_1362 : decode code 1362 = .ok (.iload_n 3, 1) := do_29 (rdb (p := 1344) (i := 18) ch_code_1344 rfl)
theorem dL_law_1363 : decode code 1363 = .ok (.iconst 4, 1) := do_7 (rdb (p := 1344) (i := 19) ch_code_1344 rfl)
theorem dL_law_1364 : decode code 1364 = .ok (.iadd, 1) := do_96 (rdb (p := 1344) (i := 20) ch_code_1344 rfl)
theorem dL_law_1365 : decode code 1365 = .ok (.iaload, 1) := do_46 (rdb (p := 1344) (i := 21) ch_code_1344 rfl)
theorem dL_law_1366 : decode code 1366 = .ok (.invokevirtual 138, 3) := do_182 (rdb (p := 1344) (i := 22) ch_code_1344 rfl) (rdb (p := 1344) (i := 23) ch_code_1344 rfl) (rdb (p := 1344) (i := 24) ch_code_1344 rfl) rfl
theorem dL_law_1369 : decode code 1369 = .ok (.pop, 1) := do_87 (rdb (p := 1344) (i := 25) ch_code_1344 rfl)
theorem dL_law_1370 : decode code 1370 = .ok (.aload_n 2, 1) := do_44 (rdb (p := 1344) (i := 26) ch_code_1344 rfl)
theorem dL_law_1371 : decode code 1371 = .ok (.aload_n 0, 1) := do_42 (rdb (p := 1344) (i := 27) ch_code_1344 rfl)
theorem dL_law_1372 : decode code 1372 = .ok (.iload_n 3, 1) := do_29 (rdb (p := 1344) (i := 28) ch_code_1344 rfl)
theorem dL_law_1373 : decode code 1373 = .ok (.iconst 1, 1) := do_4 (rdb (p := 1344) (i := 29) ch_code_1344 rfl)
theorem dL_law_1374 : decode code 1374 = .ok (.iadd, 1) := do_96 (rdb (p := 1344) (i := 30) ch_code_1344 rfl)
theorem dL_law_1375 : decode code 1375 = .ok (.iaload, 1) := do_46 (rdb (p := 1344) (i := 31) ch_code_1344 rfl)
theorem ch_code_1376 : (code.data.toList.drop 1376).take 36 = [42, 29, 5, 96, 46, 42, 29, 6, 96, 46, 42, 29, 7, 96, 46, 182, 0, 141, 87, 167, 1, 80, 43, 42, 29, 4, 96, 46, 42, 29, 5, 96, 46, 42, 29, 6] := by decide +kernel
theorem dL_law_1376 : decode code 1376 = .ok (.aload_n 0, 1) := do_42 (rdb (p := 1376) (i := 0) ch_code_1376 rfl)
theorem dL_law_1377 : decode code 1377 = .ok (.iload_n 3, 1) := do_29 (rdb (p := 1376) (i := 1) ch_code_1376 rfl)
theorem dL_law_1378 : decode code 1378 = .ok (.iconst 2, 1) := do_5 (rdb (p := 1376) (i := 2) ch_code_1376 rfl)
theorem dL_law_1379 : decode code 1379 = .ok (.iadd, 1) := do_96 (rdb (p := 1376) (i := 3) ch_code_1376 rfl)
theorem dL_law_1380 : decode code 1380 = .ok (.iaload, 1) := do_46 (rdb (p := 1376) (i := 4) ch_code_1376 rfl)
theorem dL_law_1381 : decode code 1381 = .ok (.aload_n 0, 1) := do_42 (rdb (p := 1376) (i := 5) ch_code_1376 rfl)
theorem dL_law_1382 : decode code 1382 = .ok (.iload_n 3, 1) := do_29 (rdb (p := 1376) (i := 6) ch_code_1376 rfl)
theorem dL_law_1383 : decode code 1383 = .ok (.iconst 3, 1) := do_6 (rdb (p := 1376) (i := 7) ch_code_1376 rfl)
theorem dL_law_1384 : decode code 1384 = .ok (.iadd, 1) := do_96 (rdb (p := 1376) (i := 8) ch_code_1376 rfl)
theorem dL_law_1385 : decode code 1385 = .ok (.iaload, 1) := do_46 (rdb (p := 1376) (i := 9) ch_code_1376 rfl)
theorem dL_law_1386 : decode code 1386 = .ok (.aload_n 0, 1) := do_42 (rdb (p := 1376) (i := 10) ch_code_1376 rfl)
theorem dL_law_1387 : decode code 1387 = .ok (.iload_n 3, 1) := do_29 (rdb (p := 1376) (i := 11) ch_code_1376 rfl)
theorem dL_law_1388 : decode code 1388 = .ok (.iconst 4, 1) := do_7 (rdb (p := 1376) (i := 12) ch_code_1376 rfl)
theorem dL_law_1389 : decode code 1389 = .ok (.iadd, 1) := do_96 (rdb (p := 1376) (i := 13) ch_code_1376 rfl)
theorem dL_law_1390 : decode code 1390 = .ok (.iaload, 1) := do_46 (rdb (p := 1376) (i := 14) ch_code_1376 rfl)
theorem dL_law_1391 : decode code 1391 = .ok (.invokevirtual 141, 3) := do_182 (rdb (p := 1376) (i := 15) ch_code_1376 rfl) (rdb (p := 1376) (i := 16) ch_code_1376 rfl) (rdb (p := 1376) (i := 17) ch_code_1376 rfl) rfl
theorem dL_law_1394 : decode code 1394 = .ok (.pop, 1) := do_87 (rdb (p := 1376) (i := 18) ch_code_1376 rfl)
theorem dL_law_1395 : decode code 1395 = .ok (.goto 336, 3) := do_167 (rdb (p := 1376) (i := 19) ch_code_1376 rfl) (rdb (p := 1376) (i := 20) ch_code_1376 rfl) (rdb (p := 1376) (i := 21) ch_code_1376 rfl) (by decide +kernel)
theorem dL_law_1398 : decode code 1398 = .ok (.aload_n 1, 1) := do_43 (rdb (p := 1376) (i := 22) ch_code_1376 rfl)
theorem dL_law_1399 : decode code 1399 = .ok (.aload_n 0, 1) := do_42 (rdb (p := 1376) (i := 23) ch_code_1376 rfl)
theorem dL_law_1400 : decode code 1400 = .ok (.iload_n 3, 1) := do_29 (rdb (p := 1376) (i := 24) ch_code_1376 rfl)
theorem dL_law_1401 : decode code 1401 = .ok (.iconst 1, 1) := do_4 (rdb (p := 1376) (i := 25) ch_code_1376 rfl)
theorem dL_law_1402 : decode code 1402 = .ok (.iadd, 1) := do_96 (rdb (p := 1376) (i := 26) ch_code_1376 rfl)
theorem dL_law_1403 : decode code 1403 = .ok (.iaload, 1) := do_46 (rdb (p := 1376) (i := 27) ch_code_1376 rfl)
theorem dL_law_1404 : decode code 1404 = .ok (.aload_n 0, 1) := do_42 (rdb (p := 1376) (i := 28) ch_code_1376 rfl)
theorem dL_law_1405 : decode code 1405 = .ok (.iload_n 3, 1) := do_29 (rdb (p := 1376) (i := 29) ch_code_1376 rfl)
theorem dL_law_1406 : decode code 1406 = .ok (.iconst 2, 1) := do_5 (rdb (p := 1376) (i := 30) ch_code_1376 rfl)
theorem dL_law_1407 : decode code 1407 = .ok (.iadd, 1) := do_96 (rdb (p := 1376) (i := 31) ch_code_1376 rfl)
theorem ch_code_1408 : (code.data.toList.drop 1408).take 36 = [46, 42, 29, 6, 96, 46, 182, 0, 142, 87, 44, 42, 29, 4, 96, 46, 42, 29, 5, 96, 46, 42, 29, 6, 96, 46, 182, 0, 145, 87, 167, 1, 37, 43, 42, 29] := by decide +kernel
theorem dL_law_1408 : decode code 1408 = .ok (.iaload, 1) := do_46 (rdb (p := 1408) (i := 0) ch_code_1408 rfl)
theorem dL_law_1409 : decode code 1409 = .ok (.aload_n 0, 1) := do_42 (rdb (p := 1408) (i := 1) ch_code_1408 rfl)
theorem dL_law_1410 : decode code 1410 = .ok (.iload_n 3, 1) := do_29 (rdb (p := 1408) (i := 2) ch_code_1408 rfl)
theorem dL_law_1411 : decode code 1411 = .ok (.iconst 3, 1) := do_6 (rdb (p := 1408) (i := 3) ch_code_1408 rfl)
theorem dL_law_1412 : decode code 1412 = .ok (.iadd, 1) := do_96 (rdb (p := 1408) (i := 4) ch_code_1408 rfl)
theorem dL_law_1413 : decode code 1413 = .ok (.iaload, 1) := do_46 (rdb (p := 1408) (i := 5) ch_code_1408 rfl)
theorem dL_law_1414 : decode code 1414 = .ok (.invokevirtual 142, 3) := do_182 (rdb (p := 1408) (i := 6) ch_code_1408 rfl) (rdb (p := 1408) (i := 7) ch_code_1408 rfl) (rdb (p := 1408) (i := 8) ch_code_1408 rfl) rfl
theorem dL_law_1417 : decode code 1417 = .ok (.pop, 1) := do_87 (rdb (p := 1408) (i := 9) ch_code_1408 rfl)
theorem dL_law_1418 : decode code 1418 = .ok (.aload_n 2, 1) := do_44 (rdb (p := 1408) (i := 10) ch_code_1408 rfl)
theorem dL_law_1419 : decode code 1419 = .ok (.aload_n 0, 1) := do_42 (rdb (p := 1408) (i := 11) ch_code_1408 rfl)
theorem dL_law_1420 : decode code 1420 = .ok (.iload_n 3, 1) := do_29 (rdb (p := 1408) (i := 12) ch_code_1408 rfl)
theorem dL_law_1421 : decode code 1421 = .ok (.iconst 1, 1) := do_4 (rdb (p := 1408) (i := 13) ch_code_1408 rfl)
theorem dL_law_1422 : decode code 1422 = .ok (.iadd, 1) := do_96 (rdb (p := 1408) (i := 14) ch_code_1408 rfl)
theorem dL_law_1423 : decode code 1423 = .ok (.iaload, 1) := do_46 (rdb (p := 1408) (i := 15) ch_code_1408 rfl)
theorem dL_law_1424 : decode code 1424 = .ok (.aload_n 0, 1) := do_42 (rdb (p := 1408) (i := 16) ch_code_1408 rfl)
theorem dL_law_1425 : decode code 1425 = .ok (.iload_n 3, 1) := do_29 (rdb (p := 1408) (i := 17) ch_code_1408 rfl)
theorem dL_law_1426 : decode code 1426 = .ok (.iconst 2, 1) := do_5 (rdb (p := 1408) (i := 18) ch_code_1408 rfl)
theorem dL_law_1427 : decode code 1427 = .ok (.iadd, 1) := do_96 (rdb (p := 1408) (i := 19) ch_code_1408 rfl)
theorem dL_law_1428 : decode code 1428 = .ok (.iaload, 1) := do_46 (rdb (p := 1408) (i := 20) ch_code_1408 rfl)
theorem dL_law_1429 : decode code 1429 = .ok (.aload_n 0, 1) := do_42 (rdb (p := 1408) (i := 21) ch_code_1408 rfl)
theorem dL_law_1430 : decode code 1430 = .ok (.iload_n 3, 1) := do_29 (rdb (p := 1408) (i := 22) ch_code_1408 rfl)
theorem dL_law_1431 : decode code 1431 = .ok (.iconst 3, 1) := do_6 (rdb (p := 1408) (i := 23) ch_code_1408 rfl)
theorem dL_law_1432 : decode code 1432 = .ok (.iadd, 1) := do_96 (rdb (p := 1408) (i := 24) ch_code_1408 rfl)
theorem dL_law_1433 : decode code 1433 = .ok (.iaload, 1) := do_46 (rdb (p := 1408) (i := 25) ch_code_1408 rfl)
theorem dL_law_1434 : decode code 1434 = .ok (.invokevirtual 145, 3) := do_182 (rdb (p := 1408) (i := 26) ch_code_1408 rfl) (rdb (p := 1408) (i := 27) ch_code_1408 rfl) (rdb (p := 1408) (i := 28) ch_code_1408 rfl) rfl
theorem dL_law_1437 : decode code 1437 = .ok (.pop, 1) := do_87 (rdb (p := 1408) (i := 29) ch_code_1408 rfl)
theorem dL_law_1438 : decode code 1438 = .ok (.goto 293, 3) := do_167 (rdb (p := 1408) (i := 30) ch_code_1408 rfl) (rdb (p := 1408) (i := 31) ch_code_1408 rfl) (rdb (p := 1408) (i := 32) ch_code_1408 rfl) (by decide +kernel)
theorem ch_code_1440 : (code.data.toList.drop 1440).take 36 = [37, 43, 42, 29, 4, 96, 46, 182, 0, 146, 87, 44, 42, 29, 4, 96, 46, 182, 0, 149, 87, 167, 1, 14, 43, 42, 29, 4, 96, 46, 42, 29, 5, 96, 46, 42] := by decide +kernel
theorem dL_law_1441 : decode code 1441 = .ok (.aload_n 1, 1) := do_43 (rdb (p := 1440) (i := 1) ch_code_1440 rfl)
theorem dL_law_1442 : decode code 1442 = .ok (.aload_n 0, 1) := do_42 (rdb (p := 1440) (i := 2) ch_code_1440 rfl)
theorem dL_law_1443 : decode code 1443 = .ok (.iload_n 3, 1) := do_29 (rdb (p := 1440) (i := 3) ch_code_1440 rfl)
theorem dL_law_1444 : decode code 1444 = .ok (.iconst 1, 1) := do_4 (rdb (p := 1440) (i := 4) ch_code_1440 rfl)
theorem dL_law_1445 : decode code 1445 = .ok (.iadd, 1) := do_96 (rdb (p := 1440) (i := 5) ch_code_1440 rfl)
theorem dL_law_1446 : decode code 1446 = .ok (.iaload, 1) := do_46 (rdb (p := 1440) (i := 6) ch_code_1440 rfl)
theorem dL_law_1447 : decode code 1447 = .ok (.invokevirtual 146, 3) := do_182 (rdb (p := 1440) (i := 7) ch_code_1440 rfl) (rdb (p := 1440) (i := 8) ch_code_1440 rfl) (rdb (p := 1440) (i := 9) ch_code_1440 rfl) rfl
theorem dL_law_1450 : decode code 1450 = .ok (.pop, 1) := do_87 (rdb (p := 1440) (i := 10) ch_code_1440 rfl)
theorem dL_law_1451 : decode code 1451 = .ok (.aload_n 2, 1) := do_44 (rdb (p := 1440) (i := 11) ch_code_1440 rfl)
theorem dL_law_1452 : decode code 1452 = .ok (.aload_n 0, 1) := do_42 (rdb (p := 1440) (i := 12) ch_code_1440 rfl)
theorem dL_law_1453 : decode code 1453 = .ok (.iload_n 3, 1) := do_29 (rdb (p := 1440) (i := 13) ch_code_1440 rfl)
theorem dL_law_1454 : decode code 1454 = .ok (.iconst 1, 1) := do_4 (rdb (p := 1440) (i := 14) ch_code_1440 rfl)
theorem dL_law_1455 : decode code 1455 = .ok (.iadd, 1) := do_96 (rdb (p := 1440) (i := 15) ch_code_1440 rfl)
theorem dL_law_1456 : decode code 1456 = .ok (.iaload, 1) := do_46 (rdb (p := 1440) (i := 16) ch_code_1440 rfl)
theorem dL_law_1457 : decode code 1457 = .ok (.invokevirtual 149, 3) := do_182 (rdb (p := 1440) (i := 17) ch_code_1440 rfl) (rdb (p := 1440) (i := 18) ch_code_1440 rfl) (rdb (p := 1440) (i := 19) ch_code_1440 rfl) rfl
theorem dL_law_1460 : decode code 1460 = .ok (.pop, 1) := do_87 (rdb (p := 1440) (i := 20) ch_code_1440 rfl)
theorem dL_law_1461 : decode code 1461 = .ok (.goto 270, 3) := do_167 (rdb (p := 1440) (i := 21) ch_code_1440 rfl) (rdb (p := 1440) (i := 22) ch_code_1440 rfl) (rdb (p := 1440) (i := 23) ch_code_1440 rfl) (by decide +kernel)
theorem dL_law_1464 : decode code 1464 = .ok (.aload_n 1, 1) := do_43 (rdb (p := 1440) (i := 24) ch_code_1440 rfl)
theorem dL_law_1465 : decode code 1465 = .ok (.aload_n 0, 1) := do_42 (rdb (p := 1440) (i := 25) ch_code_1440 rfl)
theorem dL_law_1466 : decode code 1466 = .ok (.iload_n 3, 1) := do_29 (rdb (p := 1440) (i := 26) ch_code_1440 rfl)
theorem dL_law_1467 : decode code 1467 = .ok (.iconst 1, 1) := do_4 (rdb (p := 1440) (i := 27) ch_code_1440 rfl)
theorem dL_law_1468 : decode code 1468 = .ok (.iadd, 1) := do_96 (rdb (p := 1440) (i := 28) ch_code_1440 rfl)
theorem dL_law_1469 : decode code 1469 = .ok (.iaload, 1) := do_46 (rdb (p := 1440) (i := 29) ch_code_1440 rfl)
theorem dL_law_1470 : decode code 1470 = .ok (.aload_n 0, 1) := do_42 (rdb (p := 1440) (i := 30) ch_code_1440 rfl)
theorem dL_law_1471 : decode code 1471 = .ok (.iload_n 3, 1) := do_29 (rdb (p := 1440) (i := 31) ch_code_1440 rfl)
theorem ch_code_1472 : (code.data.toList.drop 1472).take 36 = [5, 96, 46, 42, 29, 6, 96, 46, 182, 0, 150, 87, 44, 42, 29, 4, 96, 46, 42, 29, 5, 96, 46, 42, 29, 6, 96, 46, 182, 0, 153, 87, 167, 0, 227, 43] := by decide +kernel
theorem dL_law_1472 : decode code 1472 = .ok (.iconst 2, 1) := do_5 (rdb (p := 1472) (i := 0) ch_code_1472 rfl)
theorem dL_law_1473 : decode code 1473 = .ok (.iadd, 1) := do_96 (rdb (p := 1472) (i := 1) ch_code_1472 rfl)
theorem dL_law_1474 : decode code 1474 = .ok (.iaload, 1) := do_46 (rdb (p := 1472) (i := 2) ch_code_1472 rfl)
theorem dL_law_1475 : decode code 1475 = .ok (.aload_n 0, 1) := do_42 (rdb (p := 1472) (i := 3) ch_code_1472 rfl)
theorem dL_law_1476 : decode code 1476 = .ok (.iload_n 3, 1) := do_29 (rdb (p := 1472) (i := 4) ch_code_1472 rfl)
theorem dL_law_1477 : decode code 1477 = .ok (.iconst 3, 1) := do_6 (rdb (p := 1472) (i := 5) ch_code_1472 rfl)
theorem dL_law_1478 : decode code 1478 = .ok (.iadd, 1) := do_96 (rdb (p := 1472) (i := 6) ch_code_1472 rfl)
theorem dL_law_1479 : decode code 1479 = .ok (.iaload, 1) := do_46 (rdb (p := 1472) (i := 7) ch_code_1472 rfl)
theorem dL_law_1480 : decode code 1480 = .ok (.invokevirtual 150, 3) := do_182 (rdb (p := 1472) (i := 8) ch_code_1472 rfl) (rdb (p := 1472) (i := 9) ch_code_1472 rfl) (rdb (p := 1472) (i := 10) ch_code_1472 rfl) rfl
theorem dL_law_1483 : decode code 1483 = .ok (.pop, 1) := do_87 (rdb (p := 1472) (i := 11) ch_code_1472 rfl)
theorem dL_law_1484 : decode code 1484 = .ok (.aload_n 2, 1) := do_44 (rdb (p := 1472) (i := 12) ch_code_1472 rfl)
theorem dL_law_1485 : decode code 1485 = .ok (.aload_n 0, 1) := do_42 (rdb (p := 1472) (i := 13) ch_code_1472 rfl)
theorem dL_law_1486 : decode code 1486 = .ok (.iload_n 3, 1) := do_29 (rdb (p := 1472) (i := 14) ch_code_1472 rfl)
theorem dL_law_1487 : decode code 1487 = .ok (.iconst 1, 1) := do_4 (rdb (p := 1472) (i := 15) ch_code_1472 rfl)
theorem dL_law_1488 : decode code 1488 = .ok (.iadd, 1) := do_96 (rdb (p := 1472) (i := 16) ch_code_1472 rfl)
theorem dL_law_1489 : decode code 1489 = .ok (.iaload, 1) := do_46 (rdb (p := 1472) (i := 17) ch_code_1472 rfl)
theorem dL_law_1490 : decode code 1490 = .ok (.aload_n 0, 1) := do_42 (rdb (p := 1472) (i := 18) ch_code_1472 rfl)
theorem dL_law_1491 : decode code 1491 = .ok (.iload_n 3, 1) := do_29 (rdb (p := 1472) (i := 19) ch_code_1472 rfl)
theorem dL_law_1492 : decode code 1492 = .ok (.iconst 2, 1) := do_5 (rdb (p := 1472) (i := 20) ch_code_1472 rfl)
theorem dL_law_1493 : decode code 1493 = .ok (.iadd, 1) := do_96 (rdb (p := 1472) (i := 21) ch_code_1472 rfl)
theorem dL_law_1494 : decode code 1494 = .ok (.iaload, 1) := do_46 (rdb (p := 1472) (i := 22) ch_code_1472 rfl)
theorem dL_law_1495 : decode code 1495 = .ok (.aload_n 0, 1) := do_42 (rdb (p := 1472) (i := 23) ch_code_1472 rfl)
theorem dL_law_1496 : decode code 1496 = .ok (.iload_n 3, 1) := do_29 (rdb (p := 1472) (i := 24) ch_code_1472 rfl)
theorem dL_law_1497 : decode code 1497 = .ok (.iconst 3, 1) := do_6 (rdb (p := 1472) (i := 25) ch_code_1472 rfl)
theorem dL_law_1498 : decode code 1498 = .ok (.iadd, 1) := do_96 (rdb (p := 1472) (i := 26) ch_code_1472 rfl)
theorem dL_law_1499 : decode code 1499 = .ok (.iaload, 1) := do_46 (rdb (p := 1472) (i := 27) ch_code_1472 rfl)
theorem dL_law_1500 : decode code 1500 = .ok (.invokevirtual 153, 3) := do_182 (rdb (p := 1472) (i := 28) ch_code_1472 rfl) (rdb (p := 1472) (i := 29) ch_code_1472 rfl) (rdb (p := 1472) (i := 30) ch_code_1472 rfl) rfl
theorem dL_law_1503 : decode code 1503 = .ok (.pop, 1) := do_87 (rdb (p := 1472) (i := 31) ch_code_1472 rfl)
theorem ch_code_1504 : (code.data.toList.drop 1504).take 36 = [167, 0, 227, 43, 42, 29, 4, 96, 46, 42, 29, 5, 96, 46, 42, 29, 6, 96, 46, 182, 0, 154, 87, 44, 42, 29, 4, 96, 46, 42, 29, 5, 96, 46, 42, 29] := by decide +kernel
theorem dL_law_1504 : decode code 1504 = .ok (.goto 227, 3) := do_167 (rdb (p := 1504) (i := 0) ch_code_1504 rfl) (rdb (p := 1504) (i := 1) ch_code_1504 rfl) (rdb (p := 1504) (i := 2) ch_code_1504 rfl) (by decide +kernel)
theorem dL_law_1507 : decode code 1507 = .ok (.aload_n 1, 1) := do_43 (rdb (p := 1504) (i := 3) ch_code_1504 rfl)
theorem dL_law_1508 : decode code 1508 = .ok (.aload_n 0, 1) := do_42 (rdb (p := 1504) (i := 4) ch_code_1504 rfl)
theorem dL_law_1509 : decode code 1509 = .ok (.iload_n 3, 1) := do_29 (rdb (p := 1504) (i := 5) ch_code_1504 rfl)
theorem dL_law_1510 : decode code 1510 = .ok (.iconst 1, 1) := do_4 (rdb (p := 1504) (i := 6) ch_code_1504 rfl)
theorem dL_law_1511 : decode code 1511 = .ok (.iadd, 1) := do_96 (rdb (p := 1504) (i := 7) ch_code_1504 rfl)
theorem dL_law_1512 : decode code 1512 = .ok (.iaload, 1) := do_46 (rdb (p := 1504) (i := 8) ch_code_1504 rfl)
theorem dL_law_1513 : decode code 1513 = .ok (.aload_n 0, 1) := do_42 (rdb (p := 1504) (i := 9) ch_code_1504 rfl)
theorem dL_law_1514 : decode code 1514 = .ok (.iload_n 3, 1) := do_29 (rdb (p := 1504) (i := 10) ch_code_1504 rfl)
theorem dL_law_1515 : decode code 1515 = .ok (.iconst 2, 1) := do_5 (rdb (p := 1504) (i := 11) ch_code_1504 rfl)
theorem dL_law_1516 : decode code 1516 = .ok (.iadd, 1) := do_96 (rdb (p := 1504) (i := 12) ch_code_1504 rfl)
theorem dL_law_1517 : decode code 1517 = .ok (.iaload, 1) := do_46 (rdb (p := 1504) (i := 13) ch_code_1504 rfl)
theorem dL_law_1518 : decode code 1518 = .ok (.aload_n 0, 1) := do_42 (rdb (p := 1504) (i := 14) ch_code_1504 rfl)
theorem dL_law_1519 : decode code 1519 = .ok (.iload_n 3, 1) := do_29 (rdb (p := 1504) (i := 15) ch_code_1504 rfl)
theorem dL_law_1520 : decode code 1520 = .ok (.iconst 3, 1) := do_6 (rdb (p := 1504) (i := 16) ch_code_1504 rfl)
theorem dL_law_1521 : decode code 1521 = .ok (.iadd, 1) := do_96 (rdb (p := 1504) (i := 17) ch_code_1504 rfl)
theorem dL_law_1522 : decode code 1522 = .ok (.iaload, 1) := do_46 (rdb (p := 1504) (i := 18) ch_code_1504 rfl)
theorem dL_law_1523 : decode code 1523 = .ok (.invokevirtual 154, 3) := do_182 (rdb (p := 1504) (i := 19) ch_code_1504 rfl) (rdb (p := 1504) (i := 20) ch_code_1504 rfl) (rdb (p := 1504) (i := 21) ch_code_1504 rfl) rfl
theorem dL_law_1526 : decode code 1526 = .ok (.pop, 1) := do_87 (rdb (p := 1504) (i := 22) ch_code_1504 rfl)
theorem dL_law_1527 : decode code 1527 = .ok (.aload_n 2, 1) := do_44 (rdb (p := 1504) (i := 23) ch_code_1504 rfl)
theorem dL_law_1528 : decode code 1528 = .ok (.aload_n 0, 1) := do_42 (rdb (p := 1504) (i := 24) ch_code_1504 rfl)
theorem dL_law_1529 : decode code 1529 = .ok (.iload_n 3, 1) := do_29 (rdb (p := 1504) (i := 25) ch_code_1504 rfl)
theorem dL_law_1530 : decode code 1530 = .ok (.iconst 1, 1) := do_4 (rdb (p := 1504) (i := 26) ch_code_1504 rfl)
theorem dL_law_1531 : decode code 1531 = .ok (.iadd, 1) := do_96 (rdb (p := 1504) (i := 27) ch_code_1504 rfl)
theorem dL_law_1532 : decode code 1532 = .ok (.iaload, 1) := do_46 (rdb (p := 1504) (i := 28) ch_code_1504 rfl)
theorem dL_law_1533 : decode code 1533 = .ok (.aload_n 0, 1) := do_42 (rdb (p := 1504) (i := 29) ch_code_1504 rfl)
theorem dL_law_1534 : decode code 1534 = .ok (.iload_n 3, 1) := do_29 (rdb (p := 1504) (i := 30) ch_code_1504 rfl)
theorem dL_law_1535 : decode code 1535 = .ok (.iconst 2, 1) := do_5 (rdb (p := 1504) (i := 31) ch_code_1504 rfl)
theorem ch_code_1536 : (code.data.toList.drop 1536).take 36 = [96, 46, 42, 29, 6, 96, 46, 182, 0, 157, 87, 167, 0, 184, 43, 42, 29, 4, 96, 46, 42, 29, 5, 96, 46, 42, 29, 6, 96, 46, 42, 29, 7, 96, 46, 42] := by decide +kernel
theorem dL_law_1536 : decode code 1536 = .ok (.iadd, 1) := do_96 (rdb (p := 1536) (i := 0) ch_code_1536 rfl)
theorem dL_law_1537 : decode code 1537 = .ok (.iaload, 1) := do_46 (rdb (p := 1536) (i := 1) ch_code_1536 rfl)
theorem dL_law_1538 : decode code 1538 = .ok (.aload_n 0, 1) := do_42 (rdb (p := 1536) (i := 2) ch_code_1536 rfl)
theorem dL_law_1539 : decode code 1539 = .ok (.iload_n 3, 1) := do_29 (rdb (p := 1536) (i := 3) ch_code_1536 rfl)
theorem dL_law_1540 : decode code 1540 = .ok (.iconst 3, 1) := do_6 (rdb (p := 1536) (i := 4) ch_code_1536 rfl)
theorem dL_law_1541 : decode code 1541 = .ok (.iadd, 1) := do_96 (rdb (p := 1536) (i := 5) ch_code_1536 rfl)
theorem dL_law_1542 : decode code 1542 = .ok (.iaload, 1) := do_46 (rdb (p := 1536) (i := 6) ch_code_1536 rfl)
theorem dL_law_1543 : decode code 1543 = .ok (.invokevirtual 157, 3) := do_182 (rdb (p := 1536) (i := 7) ch_code_1536 rfl) (rdb (p := 1536) (i := 8) ch_code_1536 rfl) (rdb (p := 1536) (i := 9) ch_code_1536 rfl) rfl
theorem dL_law_1546 : decode code 1546 = .ok (.pop, 1) := do_87 (rdb (p := 1536) (i := 10) ch_code_1536 rfl)
theorem dL_law_1547 : decode code 1547 = .ok (.goto 184, 3) := do_167 (rdb (p := 1536) (i := 11) ch_code_1536 rfl) (rdb (p := 1536) (i := 12) ch_code_1536 rfl) (rdb (p := 1536) (i := 13) ch_code_1536 rfl) (by decide +kernel)
theorem dL_law_1550 : decode code 1550 = .ok (.aload_n 1, 1) := do_43 (rdb (p := 1536) (i := 14) ch_code_1536 rfl)
theorem dL_law_1551 : decode code 1551 = .ok (.aload_n 0, 1) := do_42 (rdb (p := 1536) (i := 15) ch_code_1536 rfl)
theorem dL_law_1552 : decode code 1552 = .ok (.iload_n 3, 1) := do_29 (rdb (p := 1536) (i := 16) ch_code_1536 rfl)
theorem dL_law_1553 : decode code 1553 = .ok (.iconst 1, 1) := do_4 (rdb (p := 1536) (i := 17) ch_code_1536 rfl)
theorem dL_law_1554 : decode code 1554 = .ok (.iadd, 1) := do_96 (rdb (p := 1536) (i := 18) ch_code_1536 rfl)
theorem dL_law_1555 : decode code 1555 = .ok (.iaload, 1) := do_46 (rdb (p := 1536) (i := 19) ch_code_1536 rfl)
theorem dL_law_1556 : decode code 1556 = .ok (.aload_n 0, 1) := do_42 (rdb (p := 1536) (i := 20) ch_code_1536 rfl)
theorem dL_law_1557 : decode code 1557 = .ok (.iload_n 3, 1) := do_29 (rdb (p := 1536) (i := 21) ch_code_1536 rfl)
theorem dL_law_1558 : decode code 1558 = .ok (.iconst 2, 1) := do_5 (rdb (p := 1536) (i := 22) ch_code_1536 rfl)
theorem dL_law_1559 : decode code 1559 = .ok (.iadd, 1) := do_96 (rdb (p := 1536) (i := 23) ch_code_1536 rfl)
theorem dL_law_1560 : decode code 1560 = .ok (.iaload, 1) := do_46 (rdb (p := 1536) (i := 24) ch_code_1536 rfl)
theorem dL_law_1561 : decode code 1561 = .ok (.aload_n 0, 1) := do_42 (rdb (p := 1536) (i := 25) ch_code_1536 rfl)
theorem dL_law_1562 : decode code 1562 = .ok (.iload_n 3, 1) := do_29 (rdb (p := 1536) (i := 26) ch_code_1536 rfl)
theorem dL_law_1563 : decode code 1563 = .ok (.iconst 3, 1) := do_6 (rdb (p := 1536) (i := 27) ch_code_1536 rfl)
theorem dL_law_1564 : decode code 1564 = .ok (.iadd, 1) := do_96 (rdb (p := 1536) (i := 28) ch_code_1536 rfl)
theorem dL_law_1565 : decode code 1565 = .ok (.iaload, 1) := do_46 (rdb (p := 1536) (i := 29) ch_code_1536 rfl)
theorem dL_law_1566 : decode code 1566 = .ok (.aload_n 0, 1) := do_42 (rdb (p := 1536) (i := 30) ch_code_1536 rfl)
theorem dL_law_1567 : decode code 1567 = .ok (.iload_n 3, 1) := do_29 (rdb (p := 1536) (i := 31) ch_code_1536 rfl)
theorem ch_code_1568 : (code.data.toList.drop 1568).take 36 = [7, 96, 46, 42, 29, 8, 96, 46, 182, 0, 158, 87, 44, 42, 29, 4, 96, 46, 42, 29, 5, 96, 46, 42, 29, 6, 96, 46, 42, 29, 7, 96, 46, 42, 29, 8] := by decide +kernel
theorem dL_law_1568 : decode code 1568 = .ok (.iconst 4, 1) := do_7 (rdb (p := 1568) (i := 0) ch_code_1568 rfl)
theorem dL_law_1569 : decode code 1569 = .ok (.iadd, 1) := do_96 (rdb (p := 1568) (i := 1) ch_code_1568 rfl)
theorem dL_law_1570 : decode code 1570 = .ok (.iaload, 1) := do_46 (rdb (p := 1568) (i := 2) ch_code_1568 rfl)
theorem dL_law_1571 : decode code 1571 = .ok (.aload_n 0, 1) := do_42 (rdb (p := 1568) (i := 3) ch_code_1568 rfl)
theorem dL_law_1572 : decode code 1572 = .ok (.iload_n 3, 1) := do_29 (rdb (p := 1568) (i := 4) ch_code_1568 rfl)
theorem dL_law_1573 : decode code 1573 = .ok (.iconst 5, 1) := do_8 (rdb (p := 1568) (i := 5) ch_code_1568 rfl)
theorem dL_law_1574 : decode code 1574 = .ok (.iadd, 1) := do_96 (rdb (p := 1568) (i := 6) ch_code_1568 rfl)
theorem dL_law_1575 : decode code 1575 = .ok (.iaload, 1) := do_46 (rdb (p := 1568) (i := 7) ch_code_1568 rfl)
theorem dL_law_1576 : decode code 1576 = .ok (.invokevirtual 158, 3) := do_182 (rdb (p := 1568) (i := 8) ch_code_1568 rfl) (rdb (p := 1568) (i := 9) ch_code_1568 rfl) (rdb (p := 1568) (i := 10) ch_code_1568 rfl) rfl
theorem dL_law_1579 : decode code 1579 = .ok (.pop, 1) := do_87 (rdb (p := 1568) (i := 11) ch_code_1568 rfl)
theorem dL_law_1580 : decode code 1580 = .ok (.aload_n 2, 1) := do_44 (rdb (p := 1568) (i := 12) ch_code_1568 rfl)
theorem dL_law_1581 : decode code 1581 = .ok (.aload_n 0, 1) := do_42 (rdb (p := 1568) (i := 13) ch_code_1568 rfl)
theorem dL_law_1582 : decode code 1582 = .ok (.iload_n 3, 1) := do_29 (rdb (p := 1568) (i := 14) ch_code_1568 rfl)
theorem dL_law_1583 : decode code 1583 = .ok (.iconst 1, 1) := do_4 (rdb (p := 1568) (i := 15) ch_code_1568 rfl)
theorem dL_law_1584 : decode code 1584 = .ok (.iadd, 1) := do_96 (rdb (p := 1568) (i := 16) ch_code_1568 rfl)
theorem dL_law_1585 : decode code 1585 = .ok (.iaload, 1) := do_46 (rdb (p := 1568) (i := 17) ch_code_1568 rfl)
theorem dL_law_1586 : decode code 1586 = .ok (.aload_n 0, 1) := do_42 (rdb (p := 1568) (i := 18) ch_code_1568 rfl)
theorem dL_law_1587 : decode code 1587 = .ok (.iload_n 3, 1) := do_29 (rdb (p := 1568) (i := 19) ch_code_1568 rfl)
theorem dL_law_1588 : decode code 1588 = .ok (.iconst 2, 1) := do_5 (rdb (p := 1568) (i := 20) ch_code_1568 rfl)
theorem dL_law_1589 : decode code 1589 = .ok (.iadd, 1) := do_96 (rdb (p := 1568) (i := 21) ch_code_1568 rfl)
theorem dL_law_1590 : decode code 1590 = .ok (.iaload, 1) := do_46 (rdb (p := 1568) (i := 22) ch_code_1568 rfl)
theorem dL_law_1591 : decode code 1591 = .ok (.aload_n 0, 1) := do_42 (rdb (p := 1568) (i := 23) ch_code_1568 rfl)
theorem dL_law_1592 : decode code 1592 = .ok (.iload_n 3, 1) := do_29 (rdb (p := 1568) (i := 24) ch_code_1568 rfl)
theorem dL_law_1593 : decode code 1593 = .ok (.iconst 3, 1) := do_6 (rdb (p := 1568) (i := 25) ch_code_1568 rfl)
theorem dL_law_1594 : decode code 1594 = .ok (.iadd, 1) := do_96 (rdb (p := 1568) (i := 26) ch_code_1568 rfl)
theorem dL_law_1595 : decode code 1595 = .ok (.iaload, 1) := do_46 (rdb (p := 1568) (i := 27) ch_code_1568 rfl)
theorem dL_law_1596 : decode code 1596 = .ok (.aload_n 0, 1) := do_42 (rdb (p := 1568) (i := 28) ch_code_1568 rfl)
theorem dL_law_1597 : decode code 1597 = .ok (.iload_n 3, 1) := do_29 (rdb (p := 1568) (i := 29) ch_code_1568 rfl)
theorem dL_law_1598 : decode code 1598 = .ok (.iconst 4, 1) := do_7 (rdb (p := 1568) (i := 30) ch_code_1568 rfl)
theorem dL_law_1599 : decode code 1599 = .ok (.iadd, 1) := do_96 (rdb (p := 1568) (i := 31) ch_code_1568 rfl)
theorem ch_code_1600 : (code.data.toList.drop 1600).take 36 = [46, 42, 29, 8, 96, 46, 182, 0, 161, 87, 167, 0, 121, 43, 182, 0, 162, 87, 44, 182, 0, 166, 87, 167, 0, 108, 43, 182, 0, 167, 87, 44, 182, 0, 170, 87] := by decide +kernel
theorem dL_law_1600 : decode code 1600 = .ok (.iaload, 1) := do_46 (rdb (p := 1600) (i := 0) ch_code_1600 rfl)
theorem dL_law_1601 : decode code 1601 = .ok (.aload_n 0, 1) := do_42 (rdb (p := 1600) (i := 1) ch_code_1600 rfl)
theorem dL_law_1602 : decode code 1602 = .ok (.iload_n 3, 1) := do_29 (rdb (p := 1600) (i := 2) ch_code_1600 rfl)
theorem dL_law_1603 : decode code 1603 = .ok (.iconst 5, 1) := do_8 (rdb (p := 1600) (i := 3) ch_code_1600 rfl)
theorem dL_law_1604 : decode code 1604 = .ok (.iadd, 1) := do_96 (rdb (p := 1600) (i := 4) ch_code_1600 rfl)
theorem dL_law_1605 : decode code 1605 = .ok (.iaload, 1) := do_46 (rdb (p := 1600) (i := 5) ch_code_1600 rfl)
theorem dL_law_1606 : decode code 1606 = .ok (.invokevirtual 161, 3) := do_182 (rdb (p := 1600) (i := 6) ch_code_1600 rfl) (rdb (p := 1600) (i := 7) ch_code_1600 rfl) (rdb (p := 1600) (i := 8) ch_code_1600 rfl) rfl
theorem dL_law_1609 : decode code 1609 = .ok (.pop, 1) := do_87 (rdb (p := 1600) (i := 9) ch_code_1600 rfl)
theorem dL_law_1610 : decode code 1610 = .ok (.goto 121, 3) := do_167 (rdb (p := 1600) (i := 10) ch_code_1600 rfl) (rdb (p := 1600) (i := 11) ch_code_1600 rfl) (rdb (p := 1600) (i := 12) ch_code_1600 rfl) (by decide +kernel)
theorem dL_law_1613 : decode code 1613 = .ok (.aload_n 1, 1) := do_43 (rdb (p := 1600) (i := 13) ch_code_1600 rfl)
theorem dL_law_1614 : decode code 1614 = .ok (.invokevirtual 162, 3) := do_182 (rdb (p := 1600) (i := 14) ch_code_1600 rfl) (rdb (p := 1600) (i := 15) ch_code_1600 rfl) (rdb (p := 1600) (i := 16) ch_code_1600 rfl) rfl
theorem dL_law_1617 : decode code 1617 = .ok (.pop, 1) := do_87 (rdb (p := 1600) (i := 17) ch_code_1600 rfl)
theorem dL_law_1618 : decode code 1618 = .ok (.aload_n 2, 1) := do_44 (rdb (p := 1600) (i := 18) ch_code_1600 rfl)
theorem dL_law_1619 : decode code 1619 = .ok (.invokevirtual 166, 3) := do_182 (rdb (p := 1600) (i := 19) ch_code_1600 rfl) (rdb (p := 1600) (i := 20) ch_code_1600 rfl) (rdb (p := 1600) (i := 21) ch_code_1600 rfl) rfl
theorem dL_law_1622 : decode code 1622 = .ok (.pop, 1) := do_87 (rdb (p := 1600) (i := 22) ch_code_1600 rfl)
theorem dL_law_1623 : decode code 1623 = .ok (.goto 108, 3) := do_167 (rdb (p := 1600) (i := 23) ch_code_1600 rfl) (rdb (p := 1600) (i := 24) ch_code_1600 rfl) (rdb (p := 1600) (i := 25) ch_code_1600 rfl) (by decide +kernel)
theorem dL_law_1626 : decode code 1626 = .ok (.aload_n 1, 1) := do_43 (rdb (p := 1600) (i := 26) ch_code_1600 rfl)
theorem dL_law_1627 : decode code 1627 = .ok (.invokevirtual 167, 3) := do_182 (rdb (p := 1600) (i := 27) ch_code_1600 rfl) (rdb (p := 1600) (i := 28) ch_code_1600 rfl) (rdb (p := 1600) (i := 29) ch_code_1600 rfl) rfl
theorem dL_law_1630 : decode code 1630 = .ok (.pop, 1) := do_87 (rdb (p := 1600) (i := 30) ch_code_1600 rfl)
theorem dL_law_1631 : decode code 1631 = .ok (.aload_n 2, 1) := do_44 (rdb (p := 1600) (i := 31) ch_code_1600 rfl)
theorem ch_code_1632 : (code.data.toList.drop 1632).take 36 = [182, 0, 170, 87, 167, 0, 95, 43, 42, 29, 4, 96, 46, 182, 0, 171, 87, 44, 42, 29, 4, 96, 46, 182, 0, 174, 87, 167, 0, 72, 43, 42, 29, 4, 96, 46] := by decide +kernel
theorem dL_law_1632 : decode code 1632 = .ok (.invokevirtual 170, 3) := do_182 (rdb (p := 1632) (i := 0) ch_code_1632 rfl) (rdb (p := 1632) (i := 1) ch_code_1632 rfl) (rdb (p := 1632) (i := 2) ch_code_1632 rfl) rfl
theorem dL_law_1635 : decode code 1635 = .ok (.pop, 1) := do_87 (rdb (p := 1632) (i := 3) ch_code_1632 rfl)
theorem dL_law_1636 : decode code 1636 = .ok (.goto 95, 3) := do_167 (rdb (p := 1632) (i := 4) ch_code_1632 rfl) (rdb (p := 1632) (i := 5) ch_code_1632 rfl) (rdb (p := 1632) (i := 6) ch_code_1632 rfl) (by decide +kernel)
theorem dL_law_1639 : decode code 1639 = .ok (.aload_n 1, 1) := do_43 (rdb (p := 1632) (i := 7) ch_code_1632 rfl)
theorem dL_law_1640 : decode code 1640 = .ok (.aload_n 0, 1) := do_42 (rdb (p := 1632) (i := 8) ch_code_1632 rfl)
theorem dL_law_1641 : decode code 1641 = .ok (.iload_n 3, 1) := do_29 (rdb (p := 1632) (i := 9) ch_code_1632 rfl)
theorem dL_law_1642 : decode code 1642 = .ok (.iconst 1, 1) := do_4 (rdb (p := 1632) (i := 10) ch_code_1632 rfl)
theorem dL_law_1643 : decode code 1643 = .ok (.iadd, 1) := do_96 (rdb (p := 1632) (i := 11) ch_code_1632 rfl)
theorem dL_law_1644 : decode code 1644 = .ok (.iaload, 1) := do_46 (rdb (p := 1632) (i := 12) ch_code_1632 rfl)
theorem dL_law_1645 : decode code 1645 = .ok (.invokevirtual 171, 3) := do_182 (rdb (p := 1632) (i := 13) ch_code_1632 rfl) (rdb (p := 1632) (i := 14) ch_code_1632 rfl) (rdb (p := 1632) (i := 15) ch_code_1632 rfl) rfl
theorem dL_law_1648 : decode code 1648 = .ok (.pop, 1) := do_87 (rdb (p := 1632) (i := 16) ch_code_1632 rfl)
theorem dL_law_1649 : decode code 1649 = .ok (.aload_n 2, 1) := do_44 (rdb (p := 1632) (i := 17) ch_code_1632 rfl)
theorem dL_law_1650 : decode code 1650 = .ok (.aload_n 0, 1) := do_42 (rdb (p := 1632) (i := 18) ch_code_1632 rfl)
theorem dL_law_1651 : decode code 1651 = .ok (.iload_n 3, 1) := do_29 (rdb (p := 1632) (i := 19) ch_code_1632 rfl)
theorem dL_law_1652 : decode code 1652 = .ok (.iconst 1, 1) := do_4 (rdb (p := 1632) (i := 20) ch_code_1632 rfl)
theorem dL_law_1653 : decode code 1653 = .ok (.iadd, 1) := do_96 (rdb (p := 1632) (i := 21) ch_code_1632 rfl)
theorem dL_law_1654 : decode code 1654 = .ok (.iaload, 1) := do_46 (rdb (p := 1632) (i := 22) ch_code_1632 rfl)
theorem dL_law_1655 : decode code 1655 = .ok (.invokevirtual 174, 3) := do_182 (rdb (p := 1632) (i := 23) ch_code_1632 rfl) (rdb (p := 1632) (i := 24) ch_code_1632 rfl) (rdb (p := 1632) (i := 25) ch_code_1632 rfl) rfl
theorem dL_law_1658 : decode code 1658 = .ok (.pop, 1) := do_87 (rdb (p := 1632) (i := 26) ch_code_1632 rfl)
theorem dL_law_1659 : decode code 1659 = .ok (.goto 72, 3) := do_167 (rdb (p := 1632) (i := 27) ch_code_1632 rfl) (rdb (p := 1632) (i := 28) ch_code_1632 rfl) (rdb (p := 1632) (i := 29) ch_code_1632 rfl) (by decide +kernel)
theorem dL_law_1662 : decode code 1662 = .ok (.aload_n 1, 1) := do_43 (rdb (p := 1632) (i := 30) ch_code_1632 rfl)
theorem dL_law_1663 : decode code 1663 = .ok (.aload_n 0, 1) := do_42 (rdb (p := 1632) (i := 31) ch_code_1632 rfl)
theorem ch_code_1664 : (code.data.toList.drop 1664).take 36 = [29, 4, 96, 46, 182, 0, 175, 87, 44, 42, 29, 4, 96, 46, 182, 0, 178, 87, 167, 0, 49, 43, 42, 29, 4, 96, 46, 182, 0, 179, 87, 44, 42, 29, 4, 96] := by decide +kernel
theorem dL_law_1664 : decode code 1664 = .ok (.iload_n 3, 1) := do_29 (rdb (p := 1664) (i := 0) ch_code_1664 rfl)
theorem dL_law_1665 : decode code 1665 = .ok (.iconst 1, 1) := do_4 (rdb (p := 1664) (i := 1) ch_code_1664 rfl)
theorem dL_law_1666 : decode code 1666 = .ok (.iadd, 1) := do_96 (rdb (p := 1664) (i := 2) ch_code_1664 rfl)
theorem dL_law_1667 : decode code 1667 = .ok (.iaload, 1) := do_46 (rdb (p := 1664) (i := 3) ch_code_1664 rfl)
theorem dL_law_1668 : decode code 1668 = .ok (.invokevirtual 175, 3) := do_182 (rdb (p := 1664) (i := 4) ch_code_1664 rfl) (rdb (p := 1664) (i := 5) ch_code_1664 rfl) (rdb (p := 1664) (i := 6) ch_code_1664 rfl) rfl
theorem dL_law_1671 : decode code 1671 = .ok (.pop, 1) := do_87 (rdb (p := 1664) (i := 7) ch_code_1664 rfl)
theorem dL_law_1672 : decode code 1672 = .ok (.aload_n 2, 1) := do_44 (rdb (p := 1664) (i := 8) ch_code_1664 rfl)
theorem dL_law_1673 : decode code 1673 = .ok (.aload_n 0, 1) := do_42 (rdb (p := 1664) (i := 9) ch_code_1664 rfl)
theorem dL_law_1674 : decode code 1674 = .ok (.iload_n 3, 1) := do_29 (rdb (p := 1664) (i := 10) ch_code_1664 rfl)
theorem dL_law_1675 : decode code 1675 = .ok (.iconst 1, 1) := do_4 (rdb (p := 1664) (i := 11) ch_code_1664 rfl)
theorem dL_law_1676 : decode code 1676 = .ok (.iadd, 1) := do_96 (rdb (p := 1664) (i := 12) ch_code_1664 rfl)
theorem dL_law_1677 : decode code 1677 = .ok (.iaload, 1) := do_46 (rdb (p := 1664) (i := 13) ch_code_1664 rfl)
theorem dL_law_1678 : decode code 1678 = .ok (.invokevirtual 178, 3) := do_182 (rdb (p := 1664) (i := 14) ch_code_1664 rfl) (rdb (p := 1664) (i := 15) ch_code_1664 rfl) (rdb (p := 1664) (i := 16) ch_code_1664 rfl) rfl
theorem dL_law_1681 : decode code 1681 = .ok (.pop, 1) := do_87 (rdb (p := 1664) (i := 17) ch_code_1664 rfl)
theorem dL_law_1682 : decode code 1682 = .ok (.goto 49, 3) := do_167 (rdb (p := 1664) (i := 18) ch_code_1664 rfl) (rdb (p := 1664) (i := 19) ch_code_1664 rfl) (rdb (p := 1664) (i := 20) ch_code_1664 rfl) (by decide +kernel)
theorem dL_law_1685 : decode code 1685 = .ok (.aload_n 1, 1) := do_43 (rdb (p := 1664) (i := 21) ch_code_1664 rfl)
theorem dL_law_1686 : decode code 1686 = .ok (.aload_n 0, 1) := do_42 (rdb (p := 1664) (i := 22) ch_code_1664 rfl)
theorem dL_law_1687 : decode code 1687 = .ok (.iload_n 3, 1) := do_29 (rdb (p := 1664) (i := 23) ch_code_1664 rfl)
theorem dL_law_1688 : decode code 1688 = .ok (.iconst 1, 1) := do_4 (rdb (p := 1664) (i := 24) ch_code_1664 rfl)
theorem dL_law_1689 : decode code 1689 = .ok (.iadd, 1) := do_96 (rdb (p := 1664) (i := 25) ch_code_1664 rfl)
theorem dL_law_1690 : decode code 1690 = .ok (.iaload, 1) := do_46 (rdb (p := 1664) (i := 26) ch_code_1664 rfl)
theorem dL_law_1691 : decode code 1691 = .ok (.invokevirtual 179, 3) := do_182 (rdb (p := 1664) (i := 27) ch_code_1664 rfl) (rdb (p := 1664) (i := 28) ch_code_1664 rfl) (rdb (p := 1664) (i := 29) ch_code_1664 rfl) rfl
theorem dL_law_1694 : decode code 1694 = .ok (.pop, 1) := do_87 (rdb (p := 1664) (i := 30) ch_code_1664 rfl)
theorem dL_law_1695 : decode code 1695 = .ok (.aload_n 2, 1) := do_44 (rdb (p := 1664) (i := 31) ch_code_1664 rfl)
theorem ch_code_1696 : (code.data.toList.drop 1696).take 36 = [42, 29, 4, 96, 46, 182, 0, 182, 87, 167, 0, 26, 43, 42, 29, 4, 96, 46, 182, 0, 183, 87, 44, 42, 29, 4, 96, 46, 182, 0, 186, 87, 167, 0, 3, 132] := by decide +kernel
theorem dL_law_1696 : decode code 1696 = .ok (.aload_n 0, 1) := do_42 (rdb (p := 1696) (i := 0) ch_code_1696 rfl)
theorem dL_law_1697 : decode code 1697 = .ok (.iload_n 3, 1) := do_29 (rdb (p := 1696) (i := 1) ch_code_1696 rfl)
theorem dL_law_1698 : decode code 1698 = .ok (.iconst 1, 1) := do_4 (rdb (p := 1696) (i := 2) ch_code_1696 rfl)
theorem dL_law_1699 : decode code 1699 = .ok (.iadd, 1) := do_96 (rdb (p := 1696) (i := 3) ch_code_1696 rfl)
theorem dL_law_1700 : decode code 1700 = .ok (.iaload, 1) := do_46 (rdb (p := 1696) (i := 4) ch_code_1696 rfl)
theorem dL_law_1701 : decode code 1701 = .ok (.invokevirtual 182, 3) := do_182 (rdb (p := 1696) (i := 5) ch_code_1696 rfl) (rdb (p := 1696) (i := 6) ch_code_1696 rfl) (rdb (p := 1696) (i := 7) ch_code_1696 rfl) rfl
theorem dL_law_1704 : decode code 1704 = .ok (.pop, 1) := do_87 (rdb (p := 1696) (i := 8) ch_code_1696 rfl)
theorem dL_law_1705 : decode code 1705 = .ok (.goto 26, 3) := do_167 (rdb (p := 1696) (i := 9) ch_code_1696 rfl) (rdb (p := 1696) (i := 10) ch_code_1696 rfl) (rdb (p := 1696) (i := 11) ch_code_1696 rfl) (by decide +kernel)
theorem dL_law_1708 : decode code 1708 = .ok (.aload_n 1, 1) := do_43 (rdb (p := 1696) (i := 12) ch_code_1696 rfl)
theorem dL_law_1709 : decode code 1709 = .ok (.aload_n 0, 1) := do_42 (rdb (p := 1696) (i := 13) ch_code_1696 rfl)
theorem dL_law_1710 : decode code 1710 = .ok (.iload_n 3, 1) := do_29 (rdb (p := 1696) (i := 14) ch_code_1696 rfl)
theorem dL_law_1711 : decode code 1711 = .ok (.iconst 1, 1) := do_4 (rdb (p := 1696) (i := 15) ch_code_1696 rfl)
theorem dL_law_1712 : decode code 1712 = .ok (.iadd, 1) := do_96 (rdb (p := 1696) (i := 16) ch_code_1696 rfl)
theorem dL_law_1713 : decode code 1713 = .ok (.iaload, 1) := do_46 (rdb (p := 1696) (i := 17) ch_code_1696 rfl)
theorem dL_law_1714 : decode code 1714 = .ok (.invokevirtual 183, 3) := do_182 (rdb (p := 1696) (i := 18) ch_code_1696 rfl) (rdb (p := 1696) (i := 19) ch_code_1696 rfl) (rdb (p := 1696) (i := 20) ch_code_1696 rfl) rfl
theorem dL_law_1717 : decode code 1717 = .ok (.pop, 1) := do_87 (rdb (p := 1696) (i := 21) ch_code_1696 rfl)
theorem dL_law_1718 : decode code 1718 = .ok (.aload_n 2, 1) := do_44 (rdb (p := 1696) (i := 22) ch_code_1696 rfl)
theorem dL_law_1719 : decode code 1719 = .ok (.aload_n 0, 1) := do_42 (rdb (p := 1696) (i := 23) ch_code_1696 rfl)
theorem dL_law_1720 : decode code 1720 = .ok (.iload_n 3, 1) := do_29 (rdb (p := 1696) (i := 24) ch_code_1696 rfl)
theorem dL_law_1721 : decode code 1721 = .ok (.iconst 1, 1) := do_4 (rdb (p := 1696) (i := 25) ch_code_1696 rfl)
theorem dL_law_1722 : decode code 1722 = .ok (.iadd, 1) := do_96 (rdb (p := 1696) (i := 26) ch_code_1696 rfl)
theorem dL_law_1723 : decode code 1723 = .ok (.iaload, 1) := do_46 (rdb (p := 1696) (i := 27) ch_code_1696 rfl)
theorem dL_law_1724 : decode code 1724 = .ok (.invokevirtual 186, 3) := do_182 (rdb (p := 1696) (i := 28) ch_code_1696 rfl) (rdb (p := 1696) (i := 29) ch_code_1696 rfl) (rdb (p := 1696) (i := 30) ch_code_1696 rfl) rfl
theorem dL_law_1727 : decode code 1727 = .ok (.pop, 1) := do_87 (rdb (p := 1696) (i := 31) ch_code_1696 rfl)
theorem ch_code_1728 : (code.data.toList.drop 1728).take 36 = [167, 0, 3, 132, 3, 6, 167, 249, 76, 4, 172] := by decide +kernel
theorem dL_law_1728 : decode code 1728 = .ok (.goto 3, 3) := do_167 (rdb (p := 1728) (i := 0) ch_code_1728 rfl) (rdb (p := 1728) (i := 1) ch_code_1728 rfl) (rdb (p := 1728) (i := 2) ch_code_1728 rfl) (by decide +kernel)
end
section
set_option maxHeartbeats 4000000 in
set_option maxRecDepth 100000 in
theorem law_case_0 {p : Program} {l : Launch} {e : Env} {s : State} {m : MethodId} {below : List Frame} {meth : Method} {c : Code} {b L : Nat} {xs : Nat → Int32} {A : Nat → Prop} {G : va_G} {cy : Nat → ClassId} {ad : rf → Nat} {ce sl : Nat} {Z : State → Prop} (X : LX p s m c b L xs A G cy ad ce sl) {i : Int32} {M : mM} (hI : Inv M) (hD : InvD M) (hR : RY M.1) (hi : 0 ≤ i.toInt ∧ i.toInt + 6 ≤ (L : Int)) (hend : ∀ M' : mM, Inv M' → InvD M' → RY M'.1 → WL p l e s m below meth c b A G cy ad ce sl Z 1731 [(3, vI i), (0, vR (94, 0, 0)), (1, vR (11, 0, 0)), (2, vR (12, 0, 0))] [] M') : WL p l e s m below meth c b A G cy ad ce sl Z 212 [(3, vI i), (0, vR (94, 0, 0)), (1, vR (11, 0, 0)), (2, vR (12, 0, 0))] [] M := by
  refine wl_aload_n X dL_law_212 rfl 2 rfl ?_
  refine wl_arg X 1 hi (by decide) (v := 1) (by decide) (ki := 1) (by decide) 1 0 rfl rfl dL_law_213 dL_law_214 dL_law_215 dL_law_216 dL_law_217 ?_
  refine wl_arg X 2 hi (by decide) (v := 2) (by decide) (ki := 2) (by decide) 1 0 rfl rfl dL_law_218 dL_law_219 dL_law_220 dL_law_221 dL_law_222 ?_
  refine wl_callC X (as := [vI (xs (i.toInt.toNat + 1)), vI (xs (i.toInt.toNat + 2))]) (rest := []) (c_X11_thing l G cy ad 0 (xs (i.toInt.toNat + 1)) (xs (i.toInt.toNat + 2)) M hI) kV_X11_thing pnn_0 (Nat.le_of_ble_eq_true rfl) m_487 rfl rfl rfl (by decide) (Nat.le_of_ble_eq_true rfl) (Nat.le_of_ble_eq_true rfl) dL_law_223 (fun r1_ M2_ q3_ => ?_)
  obtain ⟨hI1_, hF1_, -, hs1_⟩ := q3_
  have e1_ : mgC M2_ M = M2_ := mgC_self hF1_ SC_X11_thing
  rw [e1_]
  have hD1_ : InvD M2_ := e1_ ▸ mgC_D (M' := M2_) hD
  refine wl_pop X dL_law_226 ?_
  refine wl_aload_n X dL_law_227 rfl 3 rfl ?_
  refine wl_arg X 1 hi (by decide) (v := 1) (by decide) (ki := 1) (by decide) 1 0 rfl rfl dL_law_228 dL_law_229 dL_law_230 dL_law_231 dL_law_232 ?_
  refine wl_arg X 2 hi (by decide) (v := 2) (by decide) (ki := 2) (by decide) 1 0 rfl rfl dL_law_233 dL_law_234 dL_law_235 dL_law_236 dL_law_237 ?_
  refine wl_callD X (as := [vI (xs (i.toInt.toNat + 1)), vI (xs (i.toInt.toNat + 2))]) (rest := []) (c_X12_thing_ l G cy ad 0 (xs (i.toInt.toNat + 1)) (xs (i.toInt.toNat + 2)) M2_ hD1_) kV_X12_thing_ pnn_17 (Nat.le_of_ble_eq_true rfl) m_1423 rfl rfl rfl (by decide) (Nat.le_of_ble_eq_true rfl) (Nat.le_of_ble_eq_true rfl) dL_law_238 (fun r4_ M5_ q6_ => ?_)
  obtain ⟨hI2_, hF2_, -, hs2_⟩ := q6_
  have e2_ : (mgD M5_ M2_).1 = M5_.1 := mgD_self hF2_ SD_X12_thing_
  have hI9_ : Inv (mgD M5_ M2_) := mgD_I hI1_
  have hD9_ : InvD (mgD M5_ M2_) := mgD_D hI2_
  have st_ := sy_0 hR hD hD1_ hI2_ hF1_ hs1_ hF2_ hs2_
  refine wl_pop X dL_law_241 ?_
  refine wl_goto X (tgt := 1731) dL_law_242 (by decide) ?_
  exact hend _ hI9_ hD9_ (by rw [e2_]; exact st_.1)
set_option maxHeartbeats 4000000 in
set_option maxRecDepth 100000 in
theorem law_case_1 {p : Program} {l : Launch} {e : Env} {s : State} {m : MethodId} {below : List Frame} {meth : Method} {c : Code} {b L : Nat} {xs : Nat → Int32} {A : Nat → Prop} {G : va_G} {cy : Nat → ClassId} {ad : rf → Nat} {ce sl : Nat} {Z : State → Prop} (X : LX p s m c b L xs A G cy ad ce sl) {i : Int32} {M : mM} (hI : Inv M) (hD : InvD M) (hR : RY M.1) (hi : 0 ≤ i.toInt ∧ i.toInt + 6 ≤ (L : Int)) (hend : ∀ M' : mM, Inv M' → InvD M' → RY M'.1 → WL p l e s m below meth c b A G cy ad ce sl Z 1731 [(3, vI i), (0, vR (94, 0, 0)), (1, vR (11, 0, 0)), (2, vR (12, 0, 0))] [] M') : WL p l e s m below meth c b A G cy ad ce sl Z 245 [(3, vI i), (0, vR (94, 0, 0)), (1, vR (11, 0, 0)), (2, vR (12, 0, 0))] [] M := by
  refine wl_aload_n X dL_law_245 rfl 2 rfl ?_
  refine wl_arg X 1 hi (by decide) (v := 1) (by decide) (ki := 1) (by decide) 1 0 rfl rfl dL_law_246 dL_law_247 dL_law_248 dL_law_249 dL_law_250 ?_
  refine wl_arg X 2 hi (by decide) (v := 2) (by decide) (ki := 2) (by decide) 1 0 rfl rfl dL_law_251 dL_law_252 dL_law_253 dL_law_254 dL_law_255 ?_
  refine wl_callC X (as := [vI (xs (i.toInt.toNat + 1)), vI (xs (i.toInt.toNat + 2))]) (rest := []) (c_X11_thingIs l G cy ad 0 (xs (i.toInt.toNat + 1)) (xs (i.toInt.toNat + 2)) M hI) kV_X11_thingIs pnn_0 (Nat.le_of_ble_eq_true rfl) m_522 rfl rfl rfl (by decide) (Nat.le_of_ble_eq_true rfl) (Nat.le_of_ble_eq_true rfl) dL_law_256 (fun r1_ M2_ q3_ => ?_)
  obtain ⟨hI1_, hF1_, -, hs1_⟩ := q3_
  have e1_ : mgC M2_ M = M2_ := mgC_self hF1_ SC_X11_thingIs
  rw [e1_]
  have hD1_ : InvD M2_ := e1_ ▸ mgC_D (M' := M2_) hD
  refine wl_pop X dL_law_259 ?_
  refine wl_aload_n X dL_law_260 rfl 3 rfl ?_
  refine wl_arg X 1 hi (by decide) (v := 1) (by decide) (ki := 1) (by decide) 1 0 rfl rfl dL_law_261 dL_law_262 dL_law_263 dL_law_264 dL_law_265 ?_
  refine wl_arg X 2 hi (by decide) (v := 2) (by decide) (ki := 2) (by decide) 1 0 rfl rfl dL_law_266 dL_law_267 dL_law_268 dL_law_269 dL_law_270 ?_
  refine wl_callD X (as := [vI (xs (i.toInt.toNat + 1)), vI (xs (i.toInt.toNat + 2))]) (rest := []) (c_X12_thingIs l G cy ad 0 (xs (i.toInt.toNat + 1)) (xs (i.toInt.toNat + 2)) M2_ hD1_) kV_X12_thingIs pnn_17 (Nat.le_of_ble_eq_true rfl) m_1461 rfl rfl rfl (by decide) (Nat.le_of_ble_eq_true rfl) (Nat.le_of_ble_eq_true rfl) dL_law_271 (fun r4_ M5_ q6_ => ?_)
  obtain ⟨hI2_, hF2_, -, hs2_⟩ := q6_
  have e2_ : (mgD M5_ M2_).1 = M5_.1 := mgD_self hF2_ SD_X12_thingIs
  have hI9_ : Inv (mgD M5_ M2_) := mgD_I hI1_
  have hD9_ : InvD (mgD M5_ M2_) := mgD_D hI2_
  have st_ := sy_1 hR hD hD1_ hI2_ hF1_ hs1_ hF2_ hs2_
  refine wl_pop X dL_law_274 ?_
  refine wl_goto X (tgt := 1731) dL_law_275 (by decide) ?_
  exact hend _ hI9_ hD9_ (by rw [e2_]; exact st_.1)
set_option maxHeartbeats 4000000 in
set_option maxRecDepth 100000 in
theorem law_case_2 {p : Program} {l : Launch} {e : Env} {s : State} {m : MethodId} {below : List Frame} {meth : Method} {c : Code} {b L : Nat} {xs : Nat → Int32} {A : Nat → Prop} {G : va_G} {cy : Nat → ClassId} {ad : rf → Nat} {ce sl : Nat} {Z : State → Prop} (X : LX p s m c b L xs A G cy ad ce sl) {i : Int32} {M : mM} (hI : Inv M) (hD : InvD M) (hR : RY M.1) (hi : 0 ≤ i.toInt ∧ i.toInt + 6 ≤ (L : Int)) (hend : ∀ M' : mM, Inv M' → InvD M' → RY M'.1 → WL p l e s m below meth c b A G cy ad ce sl Z 1731 [(3, vI i), (0, vR (94, 0, 0)), (1, vR (11, 0, 0)), (2, vR (12, 0, 0))] [] M') : WL p l e s m below meth c b A G cy ad ce sl Z 278 [(3, vI i), (0, vR (94, 0, 0)), (1, vR (11, 0, 0)), (2, vR (12, 0, 0))] [] M := by
  refine wl_aload_n X dL_law_278 rfl 2 rfl ?_
  refine wl_arg X 1 hi (by decide) (v := 1) (by decide) (ki := 1) (by decide) 1 0 rfl rfl dL_law_279 dL_law_280 dL_law_281 dL_law_282 dL_law_283 ?_
  refine wl_arg X 2 hi (by decide) (v := 2) (by decide) (ki := 2) (by decide) 1 0 rfl rfl dL_law_284 dL_law_285 dL_law_286 dL_law_287 dL_law_288 ?_
  refine wl_arg X 3 hi (by decide) (v := 3) (by decide) (ki := 3) (by decide) 1 0 rfl rfl dL_law_289 dL_law_290 dL_law_291 dL_law_292 dL_law_293 ?_
  refine wl_callC X (as := [vI (xs (i.toInt.toNat + 1)), vI (xs (i.toInt.toNat + 2)), vI (xs (i.toInt.toNat + 3))]) (rest := []) (c_X11_moves l G cy ad 0 (xs (i.toInt.toNat + 1)) (xs (i.toInt.toNat + 2)) (xs (i.toInt.toNat + 3)) M hI) kV_X11_moves pnn_0 (Nat.le_of_ble_eq_true rfl) m_535 rfl rfl rfl (by decide) (Nat.le_of_ble_eq_true rfl) (Nat.le_of_ble_eq_true rfl) dL_law_294 (fun r1_ M2_ q3_ => ?_)
  obtain ⟨hI1_, hF1_, -, hs1_⟩ := q3_
  have e1_ : mgC M2_ M = M2_ := mgC_self hF1_ SC_X11_moves
  rw [e1_]
  have hD1_ : InvD M2_ := e1_ ▸ mgC_D (M' := M2_) hD
  refine wl_pop X dL_law_297 ?_
  refine wl_aload_n X dL_law_298 rfl 3 rfl ?_
  refine wl_arg X 1 hi (by decide) (v := 1) (by decide) (ki := 1) (by decide) 1 0 rfl rfl dL_law_299 dL_law_300 dL_law_301 dL_law_302 dL_law_303 ?_
  refine wl_arg X 2 hi (by decide) (v := 2) (by decide) (ki := 2) (by decide) 1 0 rfl rfl dL_law_304 dL_law_305 dL_law_306 dL_law_307 dL_law_308 ?_
  refine wl_arg X 3 hi (by decide) (v := 3) (by decide) (ki := 3) (by decide) 1 0 rfl rfl dL_law_309 dL_law_310 dL_law_311 dL_law_312 dL_law_313 ?_
  refine wl_callD X (as := [vI (xs (i.toInt.toNat + 1)), vI (xs (i.toInt.toNat + 2)), vI (xs (i.toInt.toNat + 3))]) (rest := []) (c_X12_moves l G cy ad 0 (xs (i.toInt.toNat + 1)) (xs (i.toInt.toNat + 2)) (xs (i.toInt.toNat + 3)) M2_ hD1_) kV_X12_moves pnn_17 (Nat.le_of_ble_eq_true rfl) m_1469 rfl rfl rfl (by decide) (Nat.le_of_ble_eq_true rfl) (Nat.le_of_ble_eq_true rfl) dL_law_314 (fun r4_ M5_ q6_ => ?_)
  obtain ⟨hI2_, hF2_, -, hs2_⟩ := q6_
  have e2_ : (mgD M5_ M2_).1 = M5_.1 := mgD_self hF2_ SD_X12_moves
  have hI9_ : Inv (mgD M5_ M2_) := mgD_I hI1_
  have hD9_ : InvD (mgD M5_ M2_) := mgD_D hI2_
  have st_ := sy_2 hR hD hD1_ hI2_ hF1_ hs1_ hF2_ hs2_
  refine wl_pop X dL_law_317 ?_
  refine wl_goto X (tgt := 1731) dL_law_318 (by decide) ?_
  exact hend _ hI9_ hD9_ (by rw [e2_]; exact st_.1)
set_option maxHeartbeats 4000000 in
set_option maxRecDepth 100000 in
theorem law_case_3 {p : Program} {l : Launch} {e : Env} {s : State} {m : MethodId} {below : List Frame} {meth : Method} {c : Code} {b L : Nat} {xs : Nat → Int32} {A : Nat → Prop} {G : va_G} {cy : Nat → ClassId} {ad : rf → Nat} {ce sl : Nat} {Z : State → Prop} (X : LX p s m c b L xs A G cy ad ce sl) {i : Int32} {M : mM} (hI : Inv M) (hD : InvD M) (hR : RY M.1) (hi : 0 ≤ i.toInt ∧ i.toInt + 6 ≤ (L : Int)) (hend : ∀ M' : mM, Inv M' → InvD M' → RY M'.1 → WL p l e s m below meth c b A G cy ad ce sl Z 1731 [(3, vI i), (0, vR (94, 0, 0)), (1, vR (11, 0, 0)), (2, vR (12, 0, 0))] [] M') : WL p l e s m below meth c b A G cy ad ce sl Z 321 [(3, vI i), (0, vR (94, 0, 0)), (1, vR (11, 0, 0)), (2, vR (12, 0, 0))] [] M := by
  refine wl_aload_n X dL_law_321 rfl 2 rfl ?_
  refine wl_arg X 1 hi (by decide) (v := 1) (by decide) (ki := 1) (by decide) 1 0 rfl rfl dL_law_322 dL_law_323 dL_law_324 dL_law_325 dL_law_326 ?_
  refine wl_callC X (as := [vI (xs (i.toInt.toNat + 1))]) (rest := []) (c_X11_away l G cy ad 0 (xs (i.toInt.toNat + 1)) M hI) kV_X11_away pnn_0 (Nat.le_of_ble_eq_true rfl) m_542 rfl rfl rfl (by decide) (Nat.le_of_ble_eq_true rfl) (Nat.le_of_ble_eq_true rfl) dL_law_327 (fun r1_ M2_ q3_ => ?_)
  obtain ⟨hI1_, hF1_, -, hs1_⟩ := q3_
  have e1_ : mgC M2_ M = M2_ := mgC_self hF1_ SC_X11_away
  rw [e1_]
  have hD1_ : InvD M2_ := e1_ ▸ mgC_D (M' := M2_) hD
  refine wl_pop X dL_law_330 ?_
  refine wl_aload_n X dL_law_331 rfl 3 rfl ?_
  refine wl_arg X 1 hi (by decide) (v := 1) (by decide) (ki := 1) (by decide) 1 0 rfl rfl dL_law_332 dL_law_333 dL_law_334 dL_law_335 dL_law_336 ?_
  refine wl_callD X (as := [vI (xs (i.toInt.toNat + 1))]) (rest := []) (c_X12_away l G cy ad 0 (xs (i.toInt.toNat + 1)) M2_ hD1_) kV_X12_away pnn_17 (Nat.le_of_ble_eq_true rfl) m_1477 rfl rfl rfl (by decide) (Nat.le_of_ble_eq_true rfl) (Nat.le_of_ble_eq_true rfl) dL_law_337 (fun r4_ M5_ q6_ => ?_)
  obtain ⟨hI2_, hF2_, -, hs2_⟩ := q6_
  have e2_ : (mgD M5_ M2_).1 = M5_.1 := mgD_self hF2_ SD_X12_away
  have hI9_ : Inv (mgD M5_ M2_) := mgD_I hI1_
  have hD9_ : InvD (mgD M5_ M2_) := mgD_D hI2_
  have st_ := sy_3 hR hD hD1_ hI2_ hF1_ hs1_ hF2_ hs2_
  refine wl_pop X dL_law_340 ?_
  refine wl_goto X (tgt := 1731) dL_law_341 (by decide) ?_
  exact hend _ hI9_ hD9_ (by rw [e2_]; exact st_.1)
set_option maxHeartbeats 4000000 in
set_option maxRecDepth 100000 in
theorem law_case_4 {p : Program} {l : Launch} {e : Env} {s : State} {m : MethodId} {below : List Frame} {meth : Method} {c : Code} {b L : Nat} {xs : Nat → Int32} {A : Nat → Prop} {G : va_G} {cy : Nat → ClassId} {ad : rf → Nat} {ce sl : Nat} {Z : State → Prop} (X : LX p s m c b L xs A G cy ad ce sl) {i : Int32} {M : mM} (hI : Inv M) (hD : InvD M) (hR : RY M.1) (hi : 0 ≤ i.toInt ∧ i.toInt + 6 ≤ (L : Int)) (hend : ∀ M' : mM, Inv M' → InvD M' → RY M'.1 → WL p l e s m below meth c b A G cy ad ce sl Z 1731 [(3, vI i), (0, vR (94, 0, 0)), (1, vR (11, 0, 0)), (2, vR (12, 0, 0))] [] M') : WL p l e s m below meth c b A G cy ad ce sl Z 344 [(3, vI i), (0, vR (94, 0, 0)), (1, vR (11, 0, 0)), (2, vR (12, 0, 0))] [] M := by
  refine wl_aload_n X dL_law_344 rfl 2 rfl ?_
  refine wl_arg X 1 hi (by decide) (v := 1) (by decide) (ki := 1) (by decide) 1 0 rfl rfl dL_law_345 dL_law_346 dL_law_347 dL_law_348 dL_law_349 ?_
  refine wl_arg X 2 hi (by decide) (v := 2) (by decide) (ki := 2) (by decide) 1 0 rfl rfl dL_law_350 dL_law_351 dL_law_352 dL_law_353 dL_law_354 ?_
  refine wl_arg X 3 hi (by decide) (v := 3) (by decide) (ki := 3) (by decide) 1 0 rfl rfl dL_law_355 dL_law_356 dL_law_357 dL_law_358 dL_law_359 ?_
  refine wl_callC X (as := [vI (xs (i.toInt.toNat + 1)), vI (xs (i.toInt.toNat + 2)), vI (xs (i.toInt.toNat + 3))]) (rest := []) (c_X11_kind l G cy ad 0 (xs (i.toInt.toNat + 1)) (xs (i.toInt.toNat + 2)) (xs (i.toInt.toNat + 3)) M hI) kV_X11_kind pnn_0 (Nat.le_of_ble_eq_true rfl) m_550 rfl rfl rfl (by decide) (Nat.le_of_ble_eq_true rfl) (Nat.le_of_ble_eq_true rfl) dL_law_360 (fun r1_ M2_ q3_ => ?_)
  obtain ⟨hI1_, hF1_, -, hs1_⟩ := q3_
  have e1_ : mgC M2_ M = M2_ := mgC_self hF1_ SC_X11_kind
  rw [e1_]
  have hD1_ : InvD M2_ := e1_ ▸ mgC_D (M' := M2_) hD
  refine wl_pop X dL_law_363 ?_
  refine wl_aload_n X dL_law_364 rfl 3 rfl ?_
  refine wl_arg X 1 hi (by decide) (v := 1) (by decide) (ki := 1) (by decide) 1 0 rfl rfl dL_law_365 dL_law_366 dL_law_367 dL_law_368 dL_law_369 ?_
  refine wl_arg X 2 hi (by decide) (v := 2) (by decide) (ki := 2) (by decide) 1 0 rfl rfl dL_law_370 dL_law_371 dL_law_372 dL_law_373 dL_law_374 ?_
  refine wl_arg X 3 hi (by decide) (v := 3) (by decide) (ki := 3) (by decide) 1 0 rfl rfl dL_law_375 dL_law_376 dL_law_377 dL_law_378 dL_law_379 ?_
  refine wl_callD X (as := [vI (xs (i.toInt.toNat + 1)), vI (xs (i.toInt.toNat + 2)), vI (xs (i.toInt.toNat + 3))]) (rest := []) (c_X12_kind l G cy ad 0 (xs (i.toInt.toNat + 1)) (xs (i.toInt.toNat + 2)) (xs (i.toInt.toNat + 3)) M2_ hD1_) kV_X12_kind pnn_17 (Nat.le_of_ble_eq_true rfl) m_1485 rfl rfl rfl (by decide) (Nat.le_of_ble_eq_true rfl) (Nat.le_of_ble_eq_true rfl) dL_law_380 (fun r4_ M5_ q6_ => ?_)
  obtain ⟨hI2_, hF2_, -, hs2_⟩ := q6_
  have e2_ : (mgD M5_ M2_).1 = M5_.1 := mgD_self hF2_ SD_X12_kind
  have hI9_ : Inv (mgD M5_ M2_) := mgD_I hI1_
  have hD9_ : InvD (mgD M5_ M2_) := mgD_D hI2_
  have st_ := sy_4 hR hD hD1_ hI2_ hF1_ hs1_ hF2_ hs2_
  refine wl_pop X dL_law_383 ?_
  refine wl_goto X (tgt := 1731) dL_law_384 (by decide) ?_
  exact hend _ hI9_ hD9_ (by rw [e2_]; exact st_.1)
set_option maxHeartbeats 4000000 in
set_option maxRecDepth 100000 in
theorem law_case_5 {p : Program} {l : Launch} {e : Env} {s : State} {m : MethodId} {below : List Frame} {meth : Method} {c : Code} {b L : Nat} {xs : Nat → Int32} {A : Nat → Prop} {G : va_G} {cy : Nat → ClassId} {ad : rf → Nat} {ce sl : Nat} {Z : State → Prop} (X : LX p s m c b L xs A G cy ad ce sl) {i : Int32} {M : mM} (hI : Inv M) (hD : InvD M) (hR : RY M.1) (hi : 0 ≤ i.toInt ∧ i.toInt + 6 ≤ (L : Int)) (hend : ∀ M' : mM, Inv M' → InvD M' → RY M'.1 → WL p l e s m below meth c b A G cy ad ce sl Z 1731 [(3, vI i), (0, vR (94, 0, 0)), (1, vR (11, 0, 0)), (2, vR (12, 0, 0))] [] M') : WL p l e s m below meth c b A G cy ad ce sl Z 387 [(3, vI i), (0, vR (94, 0, 0)), (1, vR (11, 0, 0)), (2, vR (12, 0, 0))] [] M := by
  refine wl_aload_n X dL_law_387 rfl 2 rfl ?_
  refine wl_arg X 1 hi (by decide) (v := 1) (by decide) (ki := 1) (by decide) 1 0 rfl rfl dL_law_388 dL_law_389 dL_law_390 dL_law_391 dL_law_392 ?_
  refine wl_callC X (as := [vI (xs (i.toInt.toNat + 1))]) (rest := []) (c_X11_at l G cy ad 0 (xs (i.toInt.toNat + 1)) M hI) kV_X11_at pnn_0 (Nat.le_of_ble_eq_true rfl) m_558 rfl rfl rfl (by decide) (Nat.le_of_ble_eq_true rfl) (Nat.le_of_ble_eq_true rfl) dL_law_393 (fun r1_ M2_ q3_ => ?_)
  obtain ⟨hI1_, hF1_, -, hs1_⟩ := q3_
  have e1_ : mgC M2_ M = M2_ := mgC_self hF1_ SC_X11_at
  rw [e1_]
  have hD1_ : InvD M2_ := e1_ ▸ mgC_D (M' := M2_) hD
  refine wl_pop X dL_law_396 ?_
  refine wl_aload_n X dL_law_397 rfl 3 rfl ?_
  refine wl_arg X 1 hi (by decide) (v := 1) (by decide) (ki := 1) (by decide) 1 0 rfl rfl dL_law_398 dL_law_399 dL_law_400 dL_law_401 dL_law_402 ?_
  refine wl_callD X (as := [vI (xs (i.toInt.toNat + 1))]) (rest := []) (c_X12_at l G cy ad 0 (xs (i.toInt.toNat + 1)) M2_ hD1_) kV_X12_at pnn_17 (Nat.le_of_ble_eq_true rfl) m_1489 rfl rfl rfl (by decide) (Nat.le_of_ble_eq_true rfl) (Nat.le_of_ble_eq_true rfl) dL_law_403 (fun r4_ M5_ q6_ => ?_)
  obtain ⟨hI2_, hF2_, -, hs2_⟩ := q6_
  have e2_ : (mgD M5_ M2_).1 = M5_.1 := mgD_self hF2_ SD_X12_at
  have hI9_ : Inv (mgD M5_ M2_) := mgD_I hI1_
  have hD9_ : InvD (mgD M5_ M2_) := mgD_D hI2_
  have st_ := sy_5 hR hD hD1_ hI2_ hF1_ hs1_ hF2_ hs2_
  refine wl_pop X dL_law_406 ?_
  refine wl_goto X (tgt := 1731) dL_law_407 (by decide) ?_
  exact hend _ hI9_ hD9_ (by rw [e2_]; exact st_.1)
set_option maxHeartbeats 4000000 in
set_option maxRecDepth 100000 in
theorem law_case_6 {p : Program} {l : Launch} {e : Env} {s : State} {m : MethodId} {below : List Frame} {meth : Method} {c : Code} {b L : Nat} {xs : Nat → Int32} {A : Nat → Prop} {G : va_G} {cy : Nat → ClassId} {ad : rf → Nat} {ce sl : Nat} {Z : State → Prop} (X : LX p s m c b L xs A G cy ad ce sl) {i : Int32} {M : mM} (hI : Inv M) (hD : InvD M) (hR : RY M.1) (hi : 0 ≤ i.toInt ∧ i.toInt + 6 ≤ (L : Int)) (hend : ∀ M' : mM, Inv M' → InvD M' → RY M'.1 → WL p l e s m below meth c b A G cy ad ce sl Z 1731 [(3, vI i), (0, vR (94, 0, 0)), (1, vR (11, 0, 0)), (2, vR (12, 0, 0))] [] M') : WL p l e s m below meth c b A G cy ad ce sl Z 410 [(3, vI i), (0, vR (94, 0, 0)), (1, vR (11, 0, 0)), (2, vR (12, 0, 0))] [] M := by
  refine wl_aload_n X dL_law_410 rfl 2 rfl ?_
  refine wl_arg X 1 hi (by decide) (v := 1) (by decide) (ki := 1) (by decide) 1 0 rfl rfl dL_law_411 dL_law_412 dL_law_413 dL_law_414 dL_law_415 ?_
  refine wl_arg X 2 hi (by decide) (v := 2) (by decide) (ki := 2) (by decide) 1 0 rfl rfl dL_law_416 dL_law_417 dL_law_418 dL_law_419 dL_law_420 ?_
  refine wl_callC X (as := [vI (xs (i.toInt.toNat + 1)), vI (xs (i.toInt.toNat + 2))]) (rest := []) (c_X11_lays l G cy ad 0 (xs (i.toInt.toNat + 1)) (xs (i.toInt.toNat + 2)) M hI) kV_X11_lays pnn_0 (Nat.le_of_ble_eq_true rfl) m_562 rfl rfl rfl (by decide) (Nat.le_of_ble_eq_true rfl) (Nat.le_of_ble_eq_true rfl) dL_law_421 (fun r1_ M2_ q3_ => ?_)
  obtain ⟨hI1_, hF1_, -, hs1_⟩ := q3_
  have e1_ : mgC M2_ M = M2_ := mgC_self hF1_ SC_X11_lays
  rw [e1_]
  have hD1_ : InvD M2_ := e1_ ▸ mgC_D (M' := M2_) hD
  refine wl_pop X dL_law_424 ?_
  refine wl_aload_n X dL_law_425 rfl 3 rfl ?_
  refine wl_arg X 1 hi (by decide) (v := 1) (by decide) (ki := 1) (by decide) 1 0 rfl rfl dL_law_426 dL_law_427 dL_law_428 dL_law_429 dL_law_430 ?_
  refine wl_arg X 2 hi (by decide) (v := 2) (by decide) (ki := 2) (by decide) 1 0 rfl rfl dL_law_431 dL_law_432 dL_law_433 dL_law_434 dL_law_435 ?_
  refine wl_callD X (as := [vI (xs (i.toInt.toNat + 1)), vI (xs (i.toInt.toNat + 2))]) (rest := []) (c_X12_lays l G cy ad 0 (xs (i.toInt.toNat + 1)) (xs (i.toInt.toNat + 2)) M2_ hD1_) kV_X12_lays pnn_17 (Nat.le_of_ble_eq_true rfl) m_1493 rfl rfl rfl (by decide) (Nat.le_of_ble_eq_true rfl) (Nat.le_of_ble_eq_true rfl) dL_law_436 (fun r4_ M5_ q6_ => ?_)
  obtain ⟨hI2_, hF2_, -, hs2_⟩ := q6_
  have e2_ : (mgD M5_ M2_).1 = M5_.1 := mgD_self hF2_ SD_X12_lays
  have hI9_ : Inv (mgD M5_ M2_) := mgD_I hI1_
  have hD9_ : InvD (mgD M5_ M2_) := mgD_D hI2_
  have st_ := sy_6 hR hD hD1_ hI2_ hF1_ hs1_ hF2_ hs2_
  refine wl_pop X dL_law_439 ?_
  refine wl_goto X (tgt := 1731) dL_law_440 (by decide) ?_
  exact hend _ hI9_ hD9_ (by rw [e2_]; exact st_.1)
set_option maxHeartbeats 4000000 in
set_option maxRecDepth 100000 in
theorem law_case_7 {p : Program} {l : Launch} {e : Env} {s : State} {m : MethodId} {below : List Frame} {meth : Method} {c : Code} {b L : Nat} {xs : Nat → Int32} {A : Nat → Prop} {G : va_G} {cy : Nat → ClassId} {ad : rf → Nat} {ce sl : Nat} {Z : State → Prop} (X : LX p s m c b L xs A G cy ad ce sl) {i : Int32} {M : mM} (hI : Inv M) (hD : InvD M) (hR : RY M.1) (hi : 0 ≤ i.toInt ∧ i.toInt + 6 ≤ (L : Int)) (hend : ∀ M' : mM, Inv M' → InvD M' → RY M'.1 → WL p l e s m below meth c b A G cy ad ce sl Z 1731 [(3, vI i), (0, vR (94, 0, 0)), (1, vR (11, 0, 0)), (2, vR (12, 0, 0))] [] M') : WL p l e s m below meth c b A G cy ad ce sl Z 443 [(3, vI i), (0, vR (94, 0, 0)), (1, vR (11, 0, 0)), (2, vR (12, 0, 0))] [] M := by
  refine wl_aload_n X dL_law_443 rfl 2 rfl ?_
  refine wl_arg X 1 hi (by decide) (v := 1) (by decide) (ki := 1) (by decide) 1 0 rfl rfl dL_law_444 dL_law_445 dL_law_446 dL_law_447 dL_law_448 ?_
  refine wl_arg X 2 hi (by decide) (v := 2) (by decide) (ki := 2) (by decide) 1 0 rfl rfl dL_law_449 dL_law_450 dL_law_451 dL_law_452 dL_law_453 ?_
  refine wl_callC X (as := [vI (xs (i.toInt.toNat + 1)), vI (xs (i.toInt.toNat + 2))]) (rest := []) (c_X11_air l G cy ad 0 (xs (i.toInt.toNat + 1)) (xs (i.toInt.toNat + 2)) M hI) kV_X11_air pnn_0 (Nat.le_of_ble_eq_true rfl) m_581 rfl rfl rfl (by decide) (Nat.le_of_ble_eq_true rfl) (Nat.le_of_ble_eq_true rfl) dL_law_454 (fun r1_ M2_ q3_ => ?_)
  obtain ⟨hI1_, hF1_, -, hs1_⟩ := q3_
  have e1_ : mgC M2_ M = M2_ := mgC_self hF1_ SC_X11_air
  rw [e1_]
  have hD1_ : InvD M2_ := e1_ ▸ mgC_D (M' := M2_) hD
  refine wl_pop X dL_law_457 ?_
  refine wl_aload_n X dL_law_458 rfl 3 rfl ?_
  refine wl_arg X 1 hi (by decide) (v := 1) (by decide) (ki := 1) (by decide) 1 0 rfl rfl dL_law_459 dL_law_460 dL_law_461 dL_law_462 dL_law_463 ?_
  refine wl_arg X 2 hi (by decide) (v := 2) (by decide) (ki := 2) (by decide) 1 0 rfl rfl dL_law_464 dL_law_465 dL_law_466 dL_law_467 dL_law_468 ?_
  refine wl_callD X (as := [vI (xs (i.toInt.toNat + 1)), vI (xs (i.toInt.toNat + 2))]) (rest := []) (c_X12_air l G cy ad 0 (xs (i.toInt.toNat + 1)) (xs (i.toInt.toNat + 2)) M2_ hD1_) kV_X12_air pnn_17 (Nat.le_of_ble_eq_true rfl) m_1501 rfl rfl rfl (by decide) (Nat.le_of_ble_eq_true rfl) (Nat.le_of_ble_eq_true rfl) dL_law_469 (fun r4_ M5_ q6_ => ?_)
  obtain ⟨hI2_, hF2_, -, hs2_⟩ := q6_
  have e2_ : (mgD M5_ M2_).1 = M5_.1 := mgD_self hF2_ SD_X12_air
  have hI9_ : Inv (mgD M5_ M2_) := mgD_I hI1_
  have hD9_ : InvD (mgD M5_ M2_) := mgD_D hI2_
  have st_ := sy_7 hR hD hD1_ hI2_ hF1_ hs1_ hF2_ hs2_
  refine wl_pop X dL_law_472 ?_
  refine wl_goto X (tgt := 1731) dL_law_473 (by decide) ?_
  exact hend _ hI9_ hD9_ (by rw [e2_]; exact st_.1)
set_option maxHeartbeats 4000000 in
set_option maxRecDepth 100000 in
theorem law_case_8 {p : Program} {l : Launch} {e : Env} {s : State} {m : MethodId} {below : List Frame} {meth : Method} {c : Code} {b L : Nat} {xs : Nat → Int32} {A : Nat → Prop} {G : va_G} {cy : Nat → ClassId} {ad : rf → Nat} {ce sl : Nat} {Z : State → Prop} (X : LX p s m c b L xs A G cy ad ce sl) {i : Int32} {M : mM} (hI : Inv M) (hD : InvD M) (hR : RY M.1) (hi : 0 ≤ i.toInt ∧ i.toInt + 6 ≤ (L : Int)) (hend : ∀ M' : mM, Inv M' → InvD M' → RY M'.1 → WL p l e s m below meth c b A G cy ad ce sl Z 1731 [(3, vI i), (0, vR (94, 0, 0)), (1, vR (11, 0, 0)), (2, vR (12, 0, 0))] [] M') : WL p l e s m below meth c b A G cy ad ce sl Z 476 [(3, vI i), (0, vR (94, 0, 0)), (1, vR (11, 0, 0)), (2, vR (12, 0, 0))] [] M := by
  refine wl_aload_n X dL_law_476 rfl 2 rfl ?_
  refine wl_arg X 1 hi (by decide) (v := 1) (by decide) (ki := 1) (by decide) 1 0 rfl rfl dL_law_477 dL_law_478 dL_law_479 dL_law_480 dL_law_481 ?_
  refine wl_arg X 2 hi (by decide) (v := 2) (by decide) (ki := 2) (by decide) 1 0 rfl rfl dL_law_482 dL_law_483 dL_law_484 dL_law_485 dL_law_486 ?_
  refine wl_arg X 3 hi (by decide) (v := 3) (by decide) (ki := 3) (by decide) 1 0 rfl rfl dL_law_487 dL_law_488 dL_law_489 dL_law_490 dL_law_491 ?_
  refine wl_callC X (as := [vI (xs (i.toInt.toNat + 1)), vI (xs (i.toInt.toNat + 2)), vI (xs (i.toInt.toNat + 3))]) (rest := []) (c_X11_walker l G cy ad 0 (xs (i.toInt.toNat + 1)) (xs (i.toInt.toNat + 2)) (xs (i.toInt.toNat + 3)) M hI) kV_X11_walker pnn_0 (Nat.le_of_ble_eq_true rfl) m_589 rfl rfl rfl (by decide) (Nat.le_of_ble_eq_true rfl) (Nat.le_of_ble_eq_true rfl) dL_law_492 (fun r1_ M2_ q3_ => ?_)
  obtain ⟨hI1_, hF1_, -, hs1_⟩ := q3_
  have e1_ : mgC M2_ M = M2_ := mgC_self hF1_ SC_X11_walker
  rw [e1_]
  have hD1_ : InvD M2_ := e1_ ▸ mgC_D (M' := M2_) hD
  refine wl_pop X dL_law_495 ?_
  refine wl_aload_n X dL_law_496 rfl 3 rfl ?_
  refine wl_arg X 1 hi (by decide) (v := 1) (by decide) (ki := 1) (by decide) 1 0 rfl rfl dL_law_497 dL_law_498 dL_law_499 dL_law_500 dL_law_501 ?_
  refine wl_arg X 2 hi (by decide) (v := 2) (by decide) (ki := 2) (by decide) 1 0 rfl rfl dL_law_502 dL_law_503 dL_law_504 dL_law_505 dL_law_506 ?_
  refine wl_arg X 3 hi (by decide) (v := 3) (by decide) (ki := 3) (by decide) 1 0 rfl rfl dL_law_507 dL_law_508 dL_law_509 dL_law_510 dL_law_511 ?_
  refine wl_callD X (as := [vI (xs (i.toInt.toNat + 1)), vI (xs (i.toInt.toNat + 2)), vI (xs (i.toInt.toNat + 3))]) (rest := []) (c_X12_walker l G cy ad 0 (xs (i.toInt.toNat + 1)) (xs (i.toInt.toNat + 2)) (xs (i.toInt.toNat + 3)) M2_ hD1_) kV_X12_walker pnn_17 (Nat.le_of_ble_eq_true rfl) m_1505 rfl rfl rfl (by decide) (Nat.le_of_ble_eq_true rfl) (Nat.le_of_ble_eq_true rfl) dL_law_512 (fun r4_ M5_ q6_ => ?_)
  obtain ⟨hI2_, hF2_, -, hs2_⟩ := q6_
  have e2_ : (mgD M5_ M2_).1 = M5_.1 := mgD_self hF2_ SD_X12_walker
  have hI9_ : Inv (mgD M5_ M2_) := mgD_I hI1_
  have hD9_ : InvD (mgD M5_ M2_) := mgD_D hI2_
  have st_ := sy_8 hR hD hD1_ hI2_ hF1_ hs1_ hF2_ hs2_
  refine wl_pop X dL_law_515 ?_
  refine wl_goto X (tgt := 1731) dL_law_516 (by decide) ?_
  exact hend _ hI9_ hD9_ (by rw [e2_]; exact st_.1)
set_option maxHeartbeats 4000000 in
set_option maxRecDepth 100000 in
theorem law_case_9 {p : Program} {l : Launch} {e : Env} {s : State} {m : MethodId} {below : List Frame} {meth : Method} {c : Code} {b L : Nat} {xs : Nat → Int32} {A : Nat → Prop} {G : va_G} {cy : Nat → ClassId} {ad : rf → Nat} {ce sl : Nat} {Z : State → Prop} (X : LX p s m c b L xs A G cy ad ce sl) {i : Int32} {M : mM} (hI : Inv M) (hD : InvD M) (hR : RY M.1) (hi : 0 ≤ i.toInt ∧ i.toInt + 6 ≤ (L : Int)) (hend : ∀ M' : mM, Inv M' → InvD M' → RY M'.1 → WL p l e s m below meth c b A G cy ad ce sl Z 1731 [(3, vI i), (0, vR (94, 0, 0)), (1, vR (11, 0, 0)), (2, vR (12, 0, 0))] [] M') : WL p l e s m below meth c b A G cy ad ce sl Z 519 [(3, vI i), (0, vR (94, 0, 0)), (1, vR (11, 0, 0)), (2, vR (12, 0, 0))] [] M := by
  refine wl_aload_n X dL_law_519 rfl 2 rfl ?_
  refine wl_arg X 1 hi (by decide) (v := 1) (by decide) (ki := 1) (by decide) 1 0 rfl rfl dL_law_520 dL_law_521 dL_law_522 dL_law_523 dL_law_524 ?_
  refine wl_arg X 2 hi (by decide) (v := 2) (by decide) (ki := 2) (by decide) 1 0 rfl rfl dL_law_525 dL_law_526 dL_law_527 dL_law_528 dL_law_529 ?_
  refine wl_callC X (as := [vI (xs (i.toInt.toNat + 1)), vI (xs (i.toInt.toNat + 2))]) (rest := []) (c_X11_walkerIs l G cy ad 0 (xs (i.toInt.toNat + 1)) (xs (i.toInt.toNat + 2)) M hI) kV_X11_walkerIs pnn_0 (Nat.le_of_ble_eq_true rfl) m_605 rfl rfl rfl (by decide) (Nat.le_of_ble_eq_true rfl) (Nat.le_of_ble_eq_true rfl) dL_law_530 (fun r1_ M2_ q3_ => ?_)
  obtain ⟨hI1_, hF1_, -, hs1_⟩ := q3_
  have e1_ : mgC M2_ M = M2_ := mgC_self hF1_ SC_X11_walkerIs
  rw [e1_]
  have hD1_ : InvD M2_ := e1_ ▸ mgC_D (M' := M2_) hD
  refine wl_pop X dL_law_533 ?_
  refine wl_aload_n X dL_law_534 rfl 3 rfl ?_
  refine wl_arg X 1 hi (by decide) (v := 1) (by decide) (ki := 1) (by decide) 1 0 rfl rfl dL_law_535 dL_law_536 dL_law_537 dL_law_538 dL_law_539 ?_
  refine wl_arg X 2 hi (by decide) (v := 2) (by decide) (ki := 2) (by decide) 1 0 rfl rfl dL_law_540 dL_law_541 dL_law_542 dL_law_543 dL_law_544 ?_
  refine wl_callD X (as := [vI (xs (i.toInt.toNat + 1)), vI (xs (i.toInt.toNat + 2))]) (rest := []) (c_X12_walkerIs l G cy ad 0 (xs (i.toInt.toNat + 1)) (xs (i.toInt.toNat + 2)) M2_ hD1_) kV_X12_walkerIs pnn_17 (Nat.le_of_ble_eq_true rfl) m_1509 rfl rfl rfl (by decide) (Nat.le_of_ble_eq_true rfl) (Nat.le_of_ble_eq_true rfl) dL_law_545 (fun r4_ M5_ q6_ => ?_)
  obtain ⟨hI2_, hF2_, -, hs2_⟩ := q6_
  have e2_ : (mgD M5_ M2_).1 = M5_.1 := mgD_self hF2_ SD_X12_walkerIs
  have hI9_ : Inv (mgD M5_ M2_) := mgD_I hI1_
  have hD9_ : InvD (mgD M5_ M2_) := mgD_D hI2_
  have st_ := sy_9 hR hD hD1_ hI2_ hF1_ hs1_ hF2_ hs2_
  refine wl_pop X dL_law_548 ?_
  refine wl_goto X (tgt := 1731) dL_law_549 (by decide) ?_
  exact hend _ hI9_ hD9_ (by rw [e2_]; exact st_.1)
set_option maxHeartbeats 4000000 in
set_option maxRecDepth 100000 in
theorem law_case_10 {p : Program} {l : Launch} {e : Env} {s : State} {m : MethodId} {below : List Frame} {meth : Method} {c : Code} {b L : Nat} {xs : Nat → Int32} {A : Nat → Prop} {G : va_G} {cy : Nat → ClassId} {ad : rf → Nat} {ce sl : Nat} {Z : State → Prop} (X : LX p s m c b L xs A G cy ad ce sl) {i : Int32} {M : mM} (hI : Inv M) (hD : InvD M) (hR : RY M.1) (hi : 0 ≤ i.toInt ∧ i.toInt + 6 ≤ (L : Int)) (hend : ∀ M' : mM, Inv M' → InvD M' → RY M'.1 → WL p l e s m below meth c b A G cy ad ce sl Z 1731 [(3, vI i), (0, vR (94, 0, 0)), (1, vR (11, 0, 0)), (2, vR (12, 0, 0))] [] M') : WL p l e s m below meth c b A G cy ad ce sl Z 552 [(3, vI i), (0, vR (94, 0, 0)), (1, vR (11, 0, 0)), (2, vR (12, 0, 0))] [] M := by
  refine wl_aload_n X dL_law_552 rfl 2 rfl ?_
  refine wl_arg X 1 hi (by decide) (v := 1) (by decide) (ki := 1) (by decide) 1 0 rfl rfl dL_law_553 dL_law_554 dL_law_555 dL_law_556 dL_law_557 ?_
  refine wl_arg X 2 hi (by decide) (v := 2) (by decide) (ki := 2) (by decide) 1 0 rfl rfl dL_law_558 dL_law_559 dL_law_560 dL_law_561 dL_law_562 ?_
  refine wl_callC X (as := [vI (xs (i.toInt.toNat + 1)), vI (xs (i.toInt.toNat + 2))]) (rest := []) (c_X11_as l G cy ad 0 (xs (i.toInt.toNat + 1)) (xs (i.toInt.toNat + 2)) M hI) kV_X11_as pnn_0 (Nat.le_of_ble_eq_true rfl) m_635 rfl rfl rfl (by decide) (Nat.le_of_ble_eq_true rfl) (Nat.le_of_ble_eq_true rfl) dL_law_563 (fun r1_ M2_ q3_ => ?_)
  obtain ⟨hI1_, hF1_, -, hs1_⟩ := q3_
  have e1_ : mgC M2_ M = M2_ := mgC_self hF1_ SC_X11_as
  rw [e1_]
  have hD1_ : InvD M2_ := e1_ ▸ mgC_D (M' := M2_) hD
  refine wl_pop X dL_law_566 ?_
  refine wl_aload_n X dL_law_567 rfl 3 rfl ?_
  refine wl_arg X 1 hi (by decide) (v := 1) (by decide) (ki := 1) (by decide) 1 0 rfl rfl dL_law_568 dL_law_569 dL_law_570 dL_law_571 dL_law_572 ?_
  refine wl_arg X 2 hi (by decide) (v := 2) (by decide) (ki := 2) (by decide) 1 0 rfl rfl dL_law_573 dL_law_574 dL_law_575 dL_law_576 dL_law_577 ?_
  refine wl_callD X (as := [vI (xs (i.toInt.toNat + 1)), vI (xs (i.toInt.toNat + 2))]) (rest := []) (c_X12_as l G cy ad 0 (xs (i.toInt.toNat + 1)) (xs (i.toInt.toNat + 2)) M2_ hD1_) kV_X12_as pnn_17 (Nat.le_of_ble_eq_true rfl) m_1528 rfl rfl rfl (by decide) (Nat.le_of_ble_eq_true rfl) (Nat.le_of_ble_eq_true rfl) dL_law_578 (fun r4_ M5_ q6_ => ?_)
  obtain ⟨hI2_, hF2_, -, hs2_⟩ := q6_
  have e2_ : (mgD M5_ M2_).1 = M5_.1 := mgD_self hF2_ SD_X12_as
  have hI9_ : Inv (mgD M5_ M2_) := mgD_I hI1_
  have hD9_ : InvD (mgD M5_ M2_) := mgD_D hI2_
  have st_ := sy_10 hR hD hD1_ hI2_ hF1_ hs1_ hF2_ hs2_
  refine wl_pop X dL_law_581 ?_
  refine wl_goto X (tgt := 1731) dL_law_582 (by decide) ?_
  exact hend _ hI9_ hD9_ (by rw [e2_]; exact st_.1)
set_option maxHeartbeats 4000000 in
set_option maxRecDepth 100000 in
theorem law_case_11 {p : Program} {l : Launch} {e : Env} {s : State} {m : MethodId} {below : List Frame} {meth : Method} {c : Code} {b L : Nat} {xs : Nat → Int32} {A : Nat → Prop} {G : va_G} {cy : Nat → ClassId} {ad : rf → Nat} {ce sl : Nat} {Z : State → Prop} (X : LX p s m c b L xs A G cy ad ce sl) {i : Int32} {M : mM} (hI : Inv M) (hD : InvD M) (hR : RY M.1) (hi : 0 ≤ i.toInt ∧ i.toInt + 6 ≤ (L : Int)) (hend : ∀ M' : mM, Inv M' → InvD M' → RY M'.1 → WL p l e s m below meth c b A G cy ad ce sl Z 1731 [(3, vI i), (0, vR (94, 0, 0)), (1, vR (11, 0, 0)), (2, vR (12, 0, 0))] [] M') : WL p l e s m below meth c b A G cy ad ce sl Z 585 [(3, vI i), (0, vR (94, 0, 0)), (1, vR (11, 0, 0)), (2, vR (12, 0, 0))] [] M := by
  refine wl_aload_n X dL_law_585 rfl 2 rfl ?_
  refine wl_arg X 1 hi (by decide) (v := 1) (by decide) (ki := 1) (by decide) 1 0 rfl rfl dL_law_586 dL_law_587 dL_law_588 dL_law_589 dL_law_590 ?_
  refine wl_arg X 2 hi (by decide) (v := 2) (by decide) (ki := 2) (by decide) 1 0 rfl rfl dL_law_591 dL_law_592 dL_law_593 dL_law_594 dL_law_595 ?_
  refine wl_arg X 3 hi (by decide) (v := 3) (by decide) (ki := 3) (by decide) 1 0 rfl rfl dL_law_596 dL_law_597 dL_law_598 dL_law_599 dL_law_600 ?_
  refine wl_arg X 4 hi (by decide) (v := 4) (by decide) (ki := 4) (by decide) 1 0 rfl rfl dL_law_601 dL_law_602 dL_law_603 dL_law_604 dL_law_605 ?_
  refine wl_callC X (as := [vI (xs (i.toInt.toNat + 1)), vI (xs (i.toInt.toNat + 2)), vI (xs (i.toInt.toNat + 3)), vI (xs (i.toInt.toNat + 4))]) (rest := []) (c_X11_habit l G cy ad 0 (xs (i.toInt.toNat + 1)) (xs (i.toInt.toNat + 2)) (xs (i.toInt.toNat + 3)) (xs (i.toInt.toNat + 4)) M hI) kV_X11_habit pnn_0 (Nat.le_of_ble_eq_true rfl) m_649 rfl rfl rfl (by decide) (Nat.le_of_ble_eq_true rfl) (Nat.le_of_ble_eq_true rfl) dL_law_606 (fun r1_ M2_ q3_ => ?_)
  obtain ⟨hI1_, hF1_, -, hs1_⟩ := q3_
  have e1_ : mgC M2_ M = M2_ := mgC_self hF1_ SC_X11_habit
  rw [e1_]
  have hD1_ : InvD M2_ := e1_ ▸ mgC_D (M' := M2_) hD
  refine wl_pop X dL_law_609 ?_
  refine wl_aload_n X dL_law_610 rfl 3 rfl ?_
  refine wl_arg X 1 hi (by decide) (v := 1) (by decide) (ki := 1) (by decide) 1 0 rfl rfl dL_law_611 dL_law_612 dL_law_613 dL_law_614 dL_law_615 ?_
  refine wl_arg X 2 hi (by decide) (v := 2) (by decide) (ki := 2) (by decide) 1 0 rfl rfl dL_law_616 dL_law_617 dL_law_618 dL_law_619 dL_law_620 ?_
  refine wl_arg X 3 hi (by decide) (v := 3) (by decide) (ki := 3) (by decide) 1 0 rfl rfl dL_law_621 dL_law_622 dL_law_623 dL_law_624 dL_law_625 ?_
  refine wl_arg X 4 hi (by decide) (v := 4) (by decide) (ki := 4) (by decide) 1 0 rfl rfl dL_law_626 dL_law_627 dL_law_628 dL_law_629 dL_law_630 ?_
  refine wl_callD X (as := [vI (xs (i.toInt.toNat + 1)), vI (xs (i.toInt.toNat + 2)), vI (xs (i.toInt.toNat + 3)), vI (xs (i.toInt.toNat + 4))]) (rest := []) (c_X12_habit l G cy ad 0 (xs (i.toInt.toNat + 1)) (xs (i.toInt.toNat + 2)) (xs (i.toInt.toNat + 3)) (xs (i.toInt.toNat + 4)) M2_ hD1_) kV_X12_habit pnn_17 (Nat.le_of_ble_eq_true rfl) m_1538 rfl rfl rfl (by decide) (Nat.le_of_ble_eq_true rfl) (Nat.le_of_ble_eq_true rfl) dL_law_631 (fun r4_ M5_ q6_ => ?_)
  obtain ⟨hI2_, hF2_, -, hs2_⟩ := q6_
  have e2_ : (mgD M5_ M2_).1 = M5_.1 := mgD_self hF2_ SD_X12_habit
  have hI9_ : Inv (mgD M5_ M2_) := mgD_I hI1_
  have hD9_ : InvD (mgD M5_ M2_) := mgD_D hI2_
  have st_ := sy_11 hR hD hD1_ hI2_ hF1_ hs1_ hF2_ hs2_
  refine wl_pop X dL_law_634 ?_
  refine wl_goto X (tgt := 1731) dL_law_635 (by decide) ?_
  exact hend _ hI9_ hD9_ (by rw [e2_]; exact st_.1)
set_option maxHeartbeats 4000000 in
set_option maxRecDepth 100000 in
theorem law_case_12 {p : Program} {l : Launch} {e : Env} {s : State} {m : MethodId} {below : List Frame} {meth : Method} {c : Code} {b L : Nat} {xs : Nat → Int32} {A : Nat → Prop} {G : va_G} {cy : Nat → ClassId} {ad : rf → Nat} {ce sl : Nat} {Z : State → Prop} (X : LX p s m c b L xs A G cy ad ce sl) {i : Int32} {M : mM} (hI : Inv M) (hD : InvD M) (hR : RY M.1) (hi : 0 ≤ i.toInt ∧ i.toInt + 6 ≤ (L : Int)) (hend : ∀ M' : mM, Inv M' → InvD M' → RY M'.1 → WL p l e s m below meth c b A G cy ad ce sl Z 1731 [(3, vI i), (0, vR (94, 0, 0)), (1, vR (11, 0, 0)), (2, vR (12, 0, 0))] [] M') : WL p l e s m below meth c b A G cy ad ce sl Z 638 [(3, vI i), (0, vR (94, 0, 0)), (1, vR (11, 0, 0)), (2, vR (12, 0, 0))] [] M := by
  refine wl_aload_n X dL_law_638 rfl 2 rfl ?_
  refine wl_arg X 1 hi (by decide) (v := 1) (by decide) (ki := 1) (by decide) 1 0 rfl rfl dL_law_639 dL_law_640 dL_law_641 dL_law_642 dL_law_643 ?_
  refine wl_arg X 2 hi (by decide) (v := 2) (by decide) (ki := 2) (by decide) 1 0 rfl rfl dL_law_644 dL_law_645 dL_law_646 dL_law_647 dL_law_648 ?_
  refine wl_callC X (as := [vI (xs (i.toInt.toNat + 1)), vI (xs (i.toInt.toNat + 2))]) (rest := []) (c_X11_face l G cy ad 0 (xs (i.toInt.toNat + 1)) (xs (i.toInt.toNat + 2)) M hI) kV_X11_face pnn_0 (Nat.le_of_ble_eq_true rfl) m_657 rfl rfl rfl (by decide) (Nat.le_of_ble_eq_true rfl) (Nat.le_of_ble_eq_true rfl) dL_law_649 (fun r1_ M2_ q3_ => ?_)
  obtain ⟨hI1_, hF1_, -, hs1_⟩ := q3_
  have e1_ : mgC M2_ M = M2_ := mgC_self hF1_ SC_X11_face
  rw [e1_]
  have hD1_ : InvD M2_ := e1_ ▸ mgC_D (M' := M2_) hD
  refine wl_pop X dL_law_652 ?_
  refine wl_aload_n X dL_law_653 rfl 3 rfl ?_
  refine wl_arg X 1 hi (by decide) (v := 1) (by decide) (ki := 1) (by decide) 1 0 rfl rfl dL_law_654 dL_law_655 dL_law_656 dL_law_657 dL_law_658 ?_
  refine wl_arg X 2 hi (by decide) (v := 2) (by decide) (ki := 2) (by decide) 1 0 rfl rfl dL_law_659 dL_law_660 dL_law_661 dL_law_662 dL_law_663 ?_
  refine wl_callD X (as := [vI (xs (i.toInt.toNat + 1)), vI (xs (i.toInt.toNat + 2))]) (rest := []) (c_X12_face l G cy ad 0 (xs (i.toInt.toNat + 1)) (xs (i.toInt.toNat + 2)) M2_ hD1_) kV_X12_face pnn_17 (Nat.le_of_ble_eq_true rfl) m_1542 rfl rfl rfl (by decide) (Nat.le_of_ble_eq_true rfl) (Nat.le_of_ble_eq_true rfl) dL_law_664 (fun r4_ M5_ q6_ => ?_)
  obtain ⟨hI2_, hF2_, -, hs2_⟩ := q6_
  have e2_ : (mgD M5_ M2_).1 = M5_.1 := mgD_self hF2_ SD_X12_face
  have hI9_ : Inv (mgD M5_ M2_) := mgD_I hI1_
  have hD9_ : InvD (mgD M5_ M2_) := mgD_D hI2_
  have st_ := sy_12 hR hD hD1_ hI2_ hF1_ hs1_ hF2_ hs2_
  refine wl_pop X dL_law_667 ?_
  refine wl_goto X (tgt := 1731) dL_law_668 (by decide) ?_
  exact hend _ hI9_ hD9_ (by rw [e2_]; exact st_.1)
set_option maxHeartbeats 4000000 in
set_option maxRecDepth 100000 in
theorem law_case_13 {p : Program} {l : Launch} {e : Env} {s : State} {m : MethodId} {below : List Frame} {meth : Method} {c : Code} {b L : Nat} {xs : Nat → Int32} {A : Nat → Prop} {G : va_G} {cy : Nat → ClassId} {ad : rf → Nat} {ce sl : Nat} {Z : State → Prop} (X : LX p s m c b L xs A G cy ad ce sl) {i : Int32} {M : mM} (hI : Inv M) (hD : InvD M) (hR : RY M.1) (hi : 0 ≤ i.toInt ∧ i.toInt + 6 ≤ (L : Int)) (hend : ∀ M' : mM, Inv M' → InvD M' → RY M'.1 → WL p l e s m below meth c b A G cy ad ce sl Z 1731 [(3, vI i), (0, vR (94, 0, 0)), (1, vR (11, 0, 0)), (2, vR (12, 0, 0))] [] M') : WL p l e s m below meth c b A G cy ad ce sl Z 671 [(3, vI i), (0, vR (94, 0, 0)), (1, vR (11, 0, 0)), (2, vR (12, 0, 0))] [] M := by
  refine wl_aload_n X dL_law_671 rfl 2 rfl ?_
  refine wl_arg X 1 hi (by decide) (v := 1) (by decide) (ki := 1) (by decide) 1 0 rfl rfl dL_law_672 dL_law_673 dL_law_674 dL_law_675 dL_law_676 ?_
  refine wl_arg X 2 hi (by decide) (v := 2) (by decide) (ki := 2) (by decide) 1 0 rfl rfl dL_law_677 dL_law_678 dL_law_679 dL_law_680 dL_law_681 ?_
  refine wl_if_eq X (tgt := 689) dL_law_682 (by decide) (fun hz1_ => ?_) (fun hz1_ => ?_)
  · refine wl_iconst X (v := 0) dL_law_689 (by decide) ?_
    refine wl_callC X (as := [vI (xs (i.toInt.toNat + 1)), vI 0]) (rest := []) (c_X11_goes l G cy ad 0 (xs (i.toInt.toNat + 1)) 0 M hI ⟨by decide, by decide⟩) kV_X11_goes pnn_0 (Nat.le_of_ble_eq_true rfl) m_661 rfl rfl rfl (by decide) (Nat.le_of_ble_eq_true rfl) (Nat.le_of_ble_eq_true rfl) dL_law_690 (fun r2_ M3_ q4_ => ?_)
    obtain ⟨hI1_, hF1_, -, hs1_⟩ := q4_
    have e1_ : mgC M3_ M = M3_ := mgC_self hF1_ SC_X11_goes
    rw [e1_]
    have hD1_ : InvD M3_ := e1_ ▸ mgC_D (M' := M3_) hD
    refine wl_pop X dL_law_693 ?_
    refine wl_aload_n X dL_law_694 rfl 3 rfl ?_
    refine wl_arg X 1 hi (by decide) (v := 1) (by decide) (ki := 1) (by decide) 1 0 rfl rfl dL_law_695 dL_law_696 dL_law_697 dL_law_698 dL_law_699 ?_
    refine wl_arg X 2 hi (by decide) (v := 2) (by decide) (ki := 2) (by decide) 1 0 rfl rfl dL_law_700 dL_law_701 dL_law_702 dL_law_703 dL_law_704 ?_
    refine wl_if_eq X (tgt := 712) dL_law_705 (by decide) (fun hz5_ => ?_) (fun hz5_ => ?_)
    · refine wl_iconst X (v := 0) dL_law_712 (by decide) ?_
      refine wl_callD X (as := [vI (xs (i.toInt.toNat + 1)), vI 0]) (rest := []) (c_X12_goes l G cy ad 0 (xs (i.toInt.toNat + 1)) 0 M3_ hD1_ ⟨by decide, by decide⟩) kV_X12_goes pnn_17 (Nat.le_of_ble_eq_true rfl) m_1546 rfl rfl rfl (by decide) (Nat.le_of_ble_eq_true rfl) (Nat.le_of_ble_eq_true rfl) dL_law_713 (fun r6_ M7_ q8_ => ?_)
      obtain ⟨hI2_, hF2_, -, hs2_⟩ := q8_
      have e2_ : (mgD M7_ M3_).1 = M7_.1 := mgD_self hF2_ SD_X12_goes
      have hI9_ : Inv (mgD M7_ M3_) := mgD_I hI1_
      have hD9_ : InvD (mgD M7_ M3_) := mgD_D hI2_
      have st_ := sy_13 hR hD hD1_ hI2_ hF1_ hs1_ hF2_ hs2_ (by decide)
      refine wl_pop X dL_law_716 ?_
      refine wl_goto X (tgt := 1731) dL_law_717 (by decide) ?_
      exact hend _ hI9_ hD9_ (by rw [e2_]; exact st_.1)
    · exact absurd hz1_ hz5_
  · refine wl_iconst X (v := 1) dL_law_685 (by decide) ?_
    refine wl_goto X (tgt := 690) dL_law_686 (by decide) ?_
    refine wl_callC X (as := [vI (xs (i.toInt.toNat + 1)), vI 1]) (rest := []) (c_X11_goes l G cy ad 0 (xs (i.toInt.toNat + 1)) 1 M hI ⟨by decide, by decide⟩) kV_X11_goes pnn_0 (Nat.le_of_ble_eq_true rfl) m_661 rfl rfl rfl (by decide) (Nat.le_of_ble_eq_true rfl) (Nat.le_of_ble_eq_true rfl) dL_law_690 (fun r9_ M10_ q11_ => ?_)
    obtain ⟨hI1_, hF1_, -, hs1_⟩ := q11_
    have e1_ : mgC M10_ M = M10_ := mgC_self hF1_ SC_X11_goes
    rw [e1_]
    have hD1_ : InvD M10_ := e1_ ▸ mgC_D (M' := M10_) hD
    refine wl_pop X dL_law_693 ?_
    refine wl_aload_n X dL_law_694 rfl 3 rfl ?_
    refine wl_arg X 1 hi (by decide) (v := 1) (by decide) (ki := 1) (by decide) 1 0 rfl rfl dL_law_695 dL_law_696 dL_law_697 dL_law_698 dL_law_699 ?_
    refine wl_arg X 2 hi (by decide) (v := 2) (by decide) (ki := 2) (by decide) 1 0 rfl rfl dL_law_700 dL_law_701 dL_law_702 dL_law_703 dL_law_704 ?_
    refine wl_if_eq X (tgt := 712) dL_law_705 (by decide) (fun hz12_ => ?_) (fun hz12_ => ?_)
    · exact absurd hz12_ hz1_
    · refine wl_iconst X (v := 1) dL_law_708 (by decide) ?_
      refine wl_goto X (tgt := 713) dL_law_709 (by decide) ?_
      refine wl_callD X (as := [vI (xs (i.toInt.toNat + 1)), vI 1]) (rest := []) (c_X12_goes l G cy ad 0 (xs (i.toInt.toNat + 1)) 1 M10_ hD1_ ⟨by decide, by decide⟩) kV_X12_goes pnn_17 (Nat.le_of_ble_eq_true rfl) m_1546 rfl rfl rfl (by decide) (Nat.le_of_ble_eq_true rfl) (Nat.le_of_ble_eq_true rfl) dL_law_713 (fun r13_ M14_ q15_ => ?_)
      obtain ⟨hI2_, hF2_, -, hs2_⟩ := q15_
      have e2_ : (mgD M14_ M10_).1 = M14_.1 := mgD_self hF2_ SD_X12_goes
      have hI9_ : Inv (mgD M14_ M10_) := mgD_I hI1_
      have hD9_ : InvD (mgD M14_ M10_) := mgD_D hI2_
      have st_ := sy_13 hR hD hD1_ hI2_ hF1_ hs1_ hF2_ hs2_ (by decide)
      refine wl_pop X dL_law_716 ?_
      refine wl_goto X (tgt := 1731) dL_law_717 (by decide) ?_
      exact hend _ hI9_ hD9_ (by rw [e2_]; exact st_.1)
set_option maxHeartbeats 4000000 in
set_option maxRecDepth 100000 in
theorem law_case_14 {p : Program} {l : Launch} {e : Env} {s : State} {m : MethodId} {below : List Frame} {meth : Method} {c : Code} {b L : Nat} {xs : Nat → Int32} {A : Nat → Prop} {G : va_G} {cy : Nat → ClassId} {ad : rf → Nat} {ce sl : Nat} {Z : State → Prop} (X : LX p s m c b L xs A G cy ad ce sl) {i : Int32} {M : mM} (hI : Inv M) (hD : InvD M) (hR : RY M.1) (hi : 0 ≤ i.toInt ∧ i.toInt + 6 ≤ (L : Int)) (hend : ∀ M' : mM, Inv M' → InvD M' → RY M'.1 → WL p l e s m below meth c b A G cy ad ce sl Z 1731 [(3, vI i), (0, vR (94, 0, 0)), (1, vR (11, 0, 0)), (2, vR (12, 0, 0))] [] M') : WL p l e s m below meth c b A G cy ad ce sl Z 720 [(3, vI i), (0, vR (94, 0, 0)), (1, vR (11, 0, 0)), (2, vR (12, 0, 0))] [] M := by
  refine wl_aload_n X dL_law_720 rfl 2 rfl ?_
  refine wl_arg X 1 hi (by decide) (v := 1) (by decide) (ki := 1) (by decide) 1 0 rfl rfl dL_law_721 dL_law_722 dL_law_723 dL_law_724 dL_law_725 ?_
  refine wl_i2l X dL_law_726 ?_
  refine wl_bipush X (v := 32) dL_law_727 (by decide) ?_
  refine wl_lshl X dL_law_729 ?_
  refine wl_arg X 2 hi (by decide) (v := 2) (by decide) (ki := 2) (by decide) 1 0 rfl rfl dL_law_730 dL_law_731 dL_law_732 dL_law_733 dL_law_734 ?_
  refine wl_i2l X dL_law_735 ?_
  refine wl_ldc2 X (v := 4294967295) m_1870 dL_law_736 ?_
  refine wl_land X dL_law_739 ?_
  refine wl_lor X dL_law_740 ?_
  refine wl_arg X 3 hi (by decide) (v := 3) (by decide) (ki := 3) (by decide) 1 0 rfl rfl dL_law_741 dL_law_742 dL_law_743 dL_law_744 dL_law_745 ?_
  refine wl_callC X (as := [vL (((((xs (i.toInt.toNat + 1))).toInt64) <<< ((32 : Int32).toInt64 &&& 63)) ||| (((((xs (i.toInt.toNat + 2))).toInt64) &&& (4294967295 : Int64)) : Int64)), vI (xs (i.toInt.toNat + 3))]) (rest := []) (c_X11_feed l G cy ad 0 (((((xs (i.toInt.toNat + 1))).toInt64) <<< ((32 : Int32).toInt64 &&& 63)) ||| (((((xs (i.toInt.toNat + 2))).toInt64) &&& (4294967295 : Int64)) : Int64)) (xs (i.toInt.toNat + 3)) M hI) kV_X11_feed pnn_0 (Nat.le_of_ble_eq_true rfl) m_665 rfl rfl rfl (by decide) (Nat.le_of_ble_eq_true rfl) (Nat.le_of_ble_eq_true rfl) dL_law_746 (fun r1_ M2_ q3_ => ?_)
  obtain ⟨hI1_, hF1_, -, hs1_⟩ := q3_
  have e1_ : mgC M2_ M = M2_ := mgC_self hF1_ SC_X11_feed
  rw [e1_]
  have hD1_ : InvD M2_ := e1_ ▸ mgC_D (M' := M2_) hD
  refine wl_pop X dL_law_749 ?_
  refine wl_aload_n X dL_law_750 rfl 3 rfl ?_
  refine wl_arg X 1 hi (by decide) (v := 1) (by decide) (ki := 1) (by decide) 1 0 rfl rfl dL_law_751 dL_law_752 dL_law_753 dL_law_754 dL_law_755 ?_
  refine wl_i2l X dL_law_756 ?_
  refine wl_bipush X (v := 32) dL_law_757 (by decide) ?_
  refine wl_lshl X dL_law_759 ?_
  refine wl_arg X 2 hi (by decide) (v := 2) (by decide) (ki := 2) (by decide) 1 0 rfl rfl dL_law_760 dL_law_761 dL_law_762 dL_law_763 dL_law_764 ?_
  refine wl_i2l X dL_law_765 ?_
  refine wl_ldc2 X (v := 4294967295) m_1870 dL_law_766 ?_
  refine wl_land X dL_law_769 ?_
  refine wl_lor X dL_law_770 ?_
  refine wl_arg X 3 hi (by decide) (v := 3) (by decide) (ki := 3) (by decide) 1 0 rfl rfl dL_law_771 dL_law_772 dL_law_773 dL_law_774 dL_law_775 ?_
  refine wl_callD X (as := [vL (((((xs (i.toInt.toNat + 1))).toInt64) <<< ((32 : Int32).toInt64 &&& 63)) ||| (((((xs (i.toInt.toNat + 2))).toInt64) &&& (4294967295 : Int64)) : Int64)), vI (xs (i.toInt.toNat + 3))]) (rest := []) (c_X12_feed l G cy ad 0 (((((xs (i.toInt.toNat + 1))).toInt64) <<< ((32 : Int32).toInt64 &&& 63)) ||| (((((xs (i.toInt.toNat + 2))).toInt64) &&& (4294967295 : Int64)) : Int64)) (xs (i.toInt.toNat + 3)) M2_ hD1_) kV_X12_feed pnn_17 (Nat.le_of_ble_eq_true rfl) m_1550 rfl rfl rfl (by decide) (Nat.le_of_ble_eq_true rfl) (Nat.le_of_ble_eq_true rfl) dL_law_776 (fun r4_ M5_ q6_ => ?_)
  obtain ⟨hI2_, hF2_, -, hs2_⟩ := q6_
  have e2_ : (mgD M5_ M2_).1 = M5_.1 := mgD_self hF2_ SD_X12_feed
  have hI9_ : Inv (mgD M5_ M2_) := mgD_I hI1_
  have hD9_ : InvD (mgD M5_ M2_) := mgD_D hI2_
  have st_ := sy_14 hR hD hD1_ hI2_ hF1_ hs1_ hF2_ hs2_
  refine wl_pop X dL_law_779 ?_
  refine wl_goto X (tgt := 1731) dL_law_780 (by decide) ?_
  exact hend _ hI9_ hD9_ (by rw [e2_]; exact st_.1)
set_option maxHeartbeats 4000000 in
set_option maxRecDepth 100000 in
theorem law_case_15 {p : Program} {l : Launch} {e : Env} {s : State} {m : MethodId} {below : List Frame} {meth : Method} {c : Code} {b L : Nat} {xs : Nat → Int32} {A : Nat → Prop} {G : va_G} {cy : Nat → ClassId} {ad : rf → Nat} {ce sl : Nat} {Z : State → Prop} (X : LX p s m c b L xs A G cy ad ce sl) {i : Int32} {M : mM} (hI : Inv M) (hD : InvD M) (hR : RY M.1) (hi : 0 ≤ i.toInt ∧ i.toInt + 6 ≤ (L : Int)) (hend : ∀ M' : mM, Inv M' → InvD M' → RY M'.1 → WL p l e s m below meth c b A G cy ad ce sl Z 1731 [(3, vI i), (0, vR (94, 0, 0)), (1, vR (11, 0, 0)), (2, vR (12, 0, 0))] [] M') : WL p l e s m below meth c b A G cy ad ce sl Z 783 [(3, vI i), (0, vR (94, 0, 0)), (1, vR (11, 0, 0)), (2, vR (12, 0, 0))] [] M := by
  refine wl_aload_n X dL_law_783 rfl 2 rfl ?_
  refine wl_arg X 1 hi (by decide) (v := 1) (by decide) (ki := 1) (by decide) 1 0 rfl rfl dL_law_784 dL_law_785 dL_law_786 dL_law_787 dL_law_788 ?_
  refine wl_callC X (as := [vI (xs (i.toInt.toNat + 1))]) (rest := []) (c_X11_text l G cy ad 0 (xs (i.toInt.toNat + 1)) M hI) kV_X11_text pnn_0 (Nat.le_of_ble_eq_true rfl) m_677 rfl rfl rfl (by decide) (Nat.le_of_ble_eq_true rfl) (Nat.le_of_ble_eq_true rfl) dL_law_789 (fun r1_ M2_ q3_ => ?_)
  obtain ⟨hI1_, hF1_, -, hs1_⟩ := q3_
  have e1_ : mgC M2_ M = M2_ := mgC_self hF1_ SC_X11_text
  rw [e1_]
  have hD1_ : InvD M2_ := e1_ ▸ mgC_D (M' := M2_) hD
  refine wl_aload_n X dL_law_792 rfl 3 rfl ?_
  refine wl_arg X 1 hi (by decide) (v := 1) (by decide) (ki := 1) (by decide) 1 0 rfl rfl dL_law_793 dL_law_794 dL_law_795 dL_law_796 dL_law_797 ?_
  refine wl_callD X (as := [vI (xs (i.toInt.toNat + 1))]) (rest := [vI r1_]) (c_X12_text_ l G cy ad 0 (xs (i.toInt.toNat + 1)) M2_ hD1_) kV_X12_text_ pnn_17 (Nat.le_of_ble_eq_true rfl) m_1555 rfl rfl rfl (by decide) (Nat.le_of_ble_eq_true rfl) (Nat.le_of_ble_eq_true rfl) dL_law_798 (fun r4_ M5_ q6_ => ?_)
  obtain ⟨hI2_, hF2_, -, hs2_⟩ := q6_
  have e2_ : (mgD M5_ M2_).1 = M5_.1 := mgD_self hF2_ SD_X12_text_
  have hI9_ : Inv (mgD M5_ M2_) := mgD_I hI1_
  have hD9_ : InvD (mgD M5_ M2_) := mgD_D hI2_
  have st_ := sy_15 hR hD hD1_ hI2_ hF1_ hs1_ hF2_ hs2_
  refine wl_icmp_eq X (tgt := 1731) dL_law_801 (by decide) (congrArg Int32.toInt st_.2) ?_
  exact hend _ hI9_ hD9_ (by rw [e2_]; exact st_.1)
set_option maxHeartbeats 4000000 in
set_option maxRecDepth 100000 in
theorem law_case_16 {p : Program} {l : Launch} {e : Env} {s : State} {m : MethodId} {below : List Frame} {meth : Method} {c : Code} {b L : Nat} {xs : Nat → Int32} {A : Nat → Prop} {G : va_G} {cy : Nat → ClassId} {ad : rf → Nat} {ce sl : Nat} {Z : State → Prop} (X : LX p s m c b L xs A G cy ad ce sl) {i : Int32} {M : mM} (hI : Inv M) (hD : InvD M) (hR : RY M.1) (hi : 0 ≤ i.toInt ∧ i.toInt + 6 ≤ (L : Int)) (hend : ∀ M' : mM, Inv M' → InvD M' → RY M'.1 → WL p l e s m below meth c b A G cy ad ce sl Z 1731 [(3, vI i), (0, vR (94, 0, 0)), (1, vR (11, 0, 0)), (2, vR (12, 0, 0))] [] M') : WL p l e s m below meth c b A G cy ad ce sl Z 806 [(3, vI i), (0, vR (94, 0, 0)), (1, vR (11, 0, 0)), (2, vR (12, 0, 0))] [] M := by
  refine wl_aload_n X dL_law_806 rfl 2 rfl ?_
  refine wl_arg X 1 hi (by decide) (v := 1) (by decide) (ki := 1) (by decide) 1 0 rfl rfl dL_law_807 dL_law_808 dL_law_809 dL_law_810 dL_law_811 ?_
  refine wl_arg X 2 hi (by decide) (v := 2) (by decide) (ki := 2) (by decide) 1 0 rfl rfl dL_law_812 dL_law_813 dL_law_814 dL_law_815 dL_law_816 ?_
  refine wl_arg X 3 hi (by decide) (v := 3) (by decide) (ki := 3) (by decide) 1 0 rfl rfl dL_law_817 dL_law_818 dL_law_819 dL_law_820 dL_law_821 ?_
  refine wl_arg X 4 hi (by decide) (v := 4) (by decide) (ki := 4) (by decide) 1 0 rfl rfl dL_law_822 dL_law_823 dL_law_824 dL_law_825 dL_law_826 ?_
  refine wl_callC X (as := [vI (xs (i.toInt.toNat + 1)), vI (xs (i.toInt.toNat + 2)), vI (xs (i.toInt.toNat + 3)), vI (xs (i.toInt.toNat + 4))]) (rest := []) (c_X11_echo l G cy ad 0 (xs (i.toInt.toNat + 1)) (xs (i.toInt.toNat + 2)) (xs (i.toInt.toNat + 3)) (xs (i.toInt.toNat + 4)) M hI) kV_X11_echo pnn_0 (Nat.le_of_ble_eq_true rfl) m_835 rfl rfl rfl (by decide) (Nat.le_of_ble_eq_true rfl) (Nat.le_of_ble_eq_true rfl) dL_law_827 (fun r1_ M2_ q3_ => ?_)
  obtain ⟨hI1_, hF1_, -, hs1_⟩ := q3_
  have e1_ : mgC M2_ M = M2_ := mgC_self hF1_ SC_X11_echo
  rw [e1_]
  have hD1_ : InvD M2_ := e1_ ▸ mgC_D (M' := M2_) hD
  refine wl_pop X dL_law_830 ?_
  refine wl_aload_n X dL_law_831 rfl 3 rfl ?_
  refine wl_arg X 1 hi (by decide) (v := 1) (by decide) (ki := 1) (by decide) 1 0 rfl rfl dL_law_832 dL_law_833 dL_law_834 dL_law_835 dL_law_836 ?_
  refine wl_arg X 2 hi (by decide) (v := 2) (by decide) (ki := 2) (by decide) 1 0 rfl rfl dL_law_837 dL_law_838 dL_law_839 dL_law_840 dL_law_841 ?_
  refine wl_arg X 3 hi (by decide) (v := 3) (by decide) (ki := 3) (by decide) 1 0 rfl rfl dL_law_842 dL_law_843 dL_law_844 dL_law_845 dL_law_846 ?_
  refine wl_arg X 4 hi (by decide) (v := 4) (by decide) (ki := 4) (by decide) 1 0 rfl rfl dL_law_847 dL_law_848 dL_law_849 dL_law_850 dL_law_851 ?_
  refine wl_callD X (as := [vI (xs (i.toInt.toNat + 1)), vI (xs (i.toInt.toNat + 2)), vI (xs (i.toInt.toNat + 3)), vI (xs (i.toInt.toNat + 4))]) (rest := []) (c_X12_echo l G cy ad 0 (xs (i.toInt.toNat + 1)) (xs (i.toInt.toNat + 2)) (xs (i.toInt.toNat + 3)) (xs (i.toInt.toNat + 4)) M2_ hD1_) kV_X12_echo pnn_17 (Nat.le_of_ble_eq_true rfl) m_1620 rfl rfl rfl (by decide) (Nat.le_of_ble_eq_true rfl) (Nat.le_of_ble_eq_true rfl) dL_law_852 (fun r4_ M5_ q6_ => ?_)
  obtain ⟨hI2_, hF2_, -, hs2_⟩ := q6_
  have e2_ : (mgD M5_ M2_).1 = M5_.1 := mgD_self hF2_ SD_X12_echo
  have hI9_ : Inv (mgD M5_ M2_) := mgD_I hI1_
  have hD9_ : InvD (mgD M5_ M2_) := mgD_D hI2_
  have st_ := sy_16 hR hD hD1_ hI2_ hF1_ hs1_ hF2_ hs2_
  refine wl_pop X dL_law_855 ?_
  refine wl_goto X (tgt := 1731) dL_law_856 (by decide) ?_
  exact hend _ hI9_ hD9_ (by rw [e2_]; exact st_.1)
set_option maxHeartbeats 4000000 in
set_option maxRecDepth 100000 in
theorem law_case_17 {p : Program} {l : Launch} {e : Env} {s : State} {m : MethodId} {below : List Frame} {meth : Method} {c : Code} {b L : Nat} {xs : Nat → Int32} {A : Nat → Prop} {G : va_G} {cy : Nat → ClassId} {ad : rf → Nat} {ce sl : Nat} {Z : State → Prop} (X : LX p s m c b L xs A G cy ad ce sl) {i : Int32} {M : mM} (hI : Inv M) (hD : InvD M) (hR : RY M.1) (hi : 0 ≤ i.toInt ∧ i.toInt + 6 ≤ (L : Int)) (hend : ∀ M' : mM, Inv M' → InvD M' → RY M'.1 → WL p l e s m below meth c b A G cy ad ce sl Z 1731 [(3, vI i), (0, vR (94, 0, 0)), (1, vR (11, 0, 0)), (2, vR (12, 0, 0))] [] M') : WL p l e s m below meth c b A G cy ad ce sl Z 859 [(3, vI i), (0, vR (94, 0, 0)), (1, vR (11, 0, 0)), (2, vR (12, 0, 0))] [] M := by
  refine wl_aload_n X dL_law_859 rfl 2 rfl ?_
  refine wl_arg X 1 hi (by decide) (v := 1) (by decide) (ki := 1) (by decide) 1 0 rfl rfl dL_law_860 dL_law_861 dL_law_862 dL_law_863 dL_law_864 ?_
  refine wl_callC X (as := [vI (xs (i.toInt.toNat + 1))]) (rest := []) (c_X11_click l G cy ad 0 (xs (i.toInt.toNat + 1)) M hI) kV_X11_click pnn_0 (Nat.le_of_ble_eq_true rfl) m_892 rfl rfl rfl (by decide) (Nat.le_of_ble_eq_true rfl) (Nat.le_of_ble_eq_true rfl) dL_law_865 (fun r1_ M2_ q3_ => ?_)
  obtain ⟨hI1_, hF1_, -, hs1_⟩ := q3_
  have e1_ : mgC M2_ M = M2_ := mgC_self hF1_ SC_X11_click
  rw [e1_]
  have hD1_ : InvD M2_ := e1_ ▸ mgC_D (M' := M2_) hD
  refine wl_pop X dL_law_868 ?_
  refine wl_aload_n X dL_law_869 rfl 3 rfl ?_
  refine wl_arg X 1 hi (by decide) (v := 1) (by decide) (ki := 1) (by decide) 1 0 rfl rfl dL_law_870 dL_law_871 dL_law_872 dL_law_873 dL_law_874 ?_
  refine wl_callD X (as := [vI (xs (i.toInt.toNat + 1))]) (rest := []) (c_X12_click l G cy ad 0 (xs (i.toInt.toNat + 1)) M2_ hD1_) kV_X12_click pnn_17 (Nat.le_of_ble_eq_true rfl) m_1667 rfl rfl rfl (by decide) (Nat.le_of_ble_eq_true rfl) (Nat.le_of_ble_eq_true rfl) dL_law_875 (fun r4_ M5_ q6_ => ?_)
  obtain ⟨hI2_, hF2_, -, hs2_⟩ := q6_
  have e2_ : (mgD M5_ M2_).1 = M5_.1 := mgD_self hF2_ SD_X12_click
  have hI9_ : Inv (mgD M5_ M2_) := mgD_I hI1_
  have hD9_ : InvD (mgD M5_ M2_) := mgD_D hI2_
  have st_ := sy_17 hR hD hD1_ hI2_ hF1_ hs1_ hF2_ hs2_
  refine wl_pop X dL_law_878 ?_
  refine wl_goto X (tgt := 1731) dL_law_879 (by decide) ?_
  exact hend _ hI9_ hD9_ (by rw [e2_]; exact st_.1)
set_option maxHeartbeats 4000000 in
set_option maxRecDepth 100000 in
theorem law_case_18 {p : Program} {l : Launch} {e : Env} {s : State} {m : MethodId} {below : List Frame} {meth : Method} {c : Code} {b L : Nat} {xs : Nat → Int32} {A : Nat → Prop} {G : va_G} {cy : Nat → ClassId} {ad : rf → Nat} {ce sl : Nat} {Z : State → Prop} (X : LX p s m c b L xs A G cy ad ce sl) {i : Int32} {M : mM} (hI : Inv M) (hD : InvD M) (hR : RY M.1) (hi : 0 ≤ i.toInt ∧ i.toInt + 6 ≤ (L : Int)) (hend : ∀ M' : mM, Inv M' → InvD M' → RY M'.1 → WL p l e s m below meth c b A G cy ad ce sl Z 1731 [(3, vI i), (0, vR (94, 0, 0)), (1, vR (11, 0, 0)), (2, vR (12, 0, 0))] [] M') : WL p l e s m below meth c b A G cy ad ce sl Z 882 [(3, vI i), (0, vR (94, 0, 0)), (1, vR (11, 0, 0)), (2, vR (12, 0, 0))] [] M := by
  refine wl_aload_n X dL_law_882 rfl 2 rfl ?_
  refine wl_arg X 1 hi (by decide) (v := 1) (by decide) (ki := 1) (by decide) 1 0 rfl rfl dL_law_883 dL_law_884 dL_law_885 dL_law_886 dL_law_887 ?_
  refine wl_arg X 2 hi (by decide) (v := 2) (by decide) (ki := 2) (by decide) 1 0 rfl rfl dL_law_888 dL_law_889 dL_law_890 dL_law_891 dL_law_892 ?_
  refine wl_arg X 3 hi (by decide) (v := 3) (by decide) (ki := 3) (by decide) 1 0 rfl rfl dL_law_893 dL_law_894 dL_law_895 dL_law_896 dL_law_897 ?_
  refine wl_callC X (as := [vI (xs (i.toInt.toNat + 1)), vI (xs (i.toInt.toNat + 2)), vI (xs (i.toInt.toNat + 3))]) (rest := []) (c_X11_head l G cy ad 0 (xs (i.toInt.toNat + 1)) (xs (i.toInt.toNat + 2)) (xs (i.toInt.toNat + 3)) M hI) kV_X11_head pnn_0 (Nat.le_of_ble_eq_true rfl) m_925 rfl rfl rfl (by decide) (Nat.le_of_ble_eq_true rfl) (Nat.le_of_ble_eq_true rfl) dL_law_898 (fun r1_ M2_ q3_ => ?_)
  obtain ⟨hI1_, hF1_, -, hs1_⟩ := q3_
  have e1_ : mgC M2_ M = M2_ := mgC_self hF1_ SC_X11_head
  rw [e1_]
  have hD1_ : InvD M2_ := e1_ ▸ mgC_D (M' := M2_) hD
  refine wl_pop X dL_law_901 ?_
  refine wl_aload_n X dL_law_902 rfl 3 rfl ?_
  refine wl_arg X 1 hi (by decide) (v := 1) (by decide) (ki := 1) (by decide) 1 0 rfl rfl dL_law_903 dL_law_904 dL_law_905 dL_law_906 dL_law_907 ?_
  refine wl_arg X 2 hi (by decide) (v := 2) (by decide) (ki := 2) (by decide) 1 0 rfl rfl dL_law_908 dL_law_909 dL_law_910 dL_law_911 dL_law_912 ?_
  refine wl_arg X 3 hi (by decide) (v := 3) (by decide) (ki := 3) (by decide) 1 0 rfl rfl dL_law_913 dL_law_914 dL_law_915 dL_law_916 dL_law_917 ?_
  refine wl_callD X (as := [vI (xs (i.toInt.toNat + 1)), vI (xs (i.toInt.toNat + 2)), vI (xs (i.toInt.toNat + 3))]) (rest := []) (c_X12_head l G cy ad 0 (xs (i.toInt.toNat + 1)) (xs (i.toInt.toNat + 2)) (xs (i.toInt.toNat + 3)) M2_ hD1_) kV_X12_head pnn_17 (Nat.le_of_ble_eq_true rfl) m_1691 rfl rfl rfl (by decide) (Nat.le_of_ble_eq_true rfl) (Nat.le_of_ble_eq_true rfl) dL_law_918 (fun r4_ M5_ q6_ => ?_)
  obtain ⟨hI2_, hF2_, -, hs2_⟩ := q6_
  have e2_ : (mgD M5_ M2_).1 = M5_.1 := mgD_self hF2_ SD_X12_head
  have hI9_ : Inv (mgD M5_ M2_) := mgD_I hI1_
  have hD9_ : InvD (mgD M5_ M2_) := mgD_D hI2_
  have st_ := sy_18 hR hD hD1_ hI2_ hF1_ hs1_ hF2_ hs2_
  refine wl_pop X dL_law_921 ?_
  refine wl_goto X (tgt := 1731) dL_law_922 (by decide) ?_
  exact hend _ hI9_ hD9_ (by rw [e2_]; exact st_.1)
set_option maxHeartbeats 4000000 in
set_option maxRecDepth 100000 in
theorem law_case_19 {p : Program} {l : Launch} {e : Env} {s : State} {m : MethodId} {below : List Frame} {meth : Method} {c : Code} {b L : Nat} {xs : Nat → Int32} {A : Nat → Prop} {G : va_G} {cy : Nat → ClassId} {ad : rf → Nat} {ce sl : Nat} {Z : State → Prop} (X : LX p s m c b L xs A G cy ad ce sl) {i : Int32} {M : mM} (hI : Inv M) (hD : InvD M) (hR : RY M.1) (hi : 0 ≤ i.toInt ∧ i.toInt + 6 ≤ (L : Int)) (hend : ∀ M' : mM, Inv M' → InvD M' → RY M'.1 → WL p l e s m below meth c b A G cy ad ce sl Z 1731 [(3, vI i), (0, vR (94, 0, 0)), (1, vR (11, 0, 0)), (2, vR (12, 0, 0))] [] M') : WL p l e s m below meth c b A G cy ad ce sl Z 925 [(3, vI i), (0, vR (94, 0, 0)), (1, vR (11, 0, 0)), (2, vR (12, 0, 0))] [] M := by
  refine wl_aload_n X dL_law_925 rfl 2 rfl ?_
  refine wl_arg X 1 hi (by decide) (v := 1) (by decide) (ki := 1) (by decide) 1 0 rfl rfl dL_law_926 dL_law_927 dL_law_928 dL_law_929 dL_law_930 ?_
  refine wl_arg X 2 hi (by decide) (v := 2) (by decide) (ki := 2) (by decide) 1 0 rfl rfl dL_law_931 dL_law_932 dL_law_933 dL_law_934 dL_law_935 ?_
  refine wl_callC X (as := [vI (xs (i.toInt.toNat + 1)), vI (xs (i.toInt.toNat + 2))]) (rest := []) (c_X11_heads l G cy ad 0 (xs (i.toInt.toNat + 1)) (xs (i.toInt.toNat + 2)) M hI) kV_X11_heads pnn_0 (Nat.le_of_ble_eq_true rfl) m_933 rfl rfl rfl (by decide) (Nat.le_of_ble_eq_true rfl) (Nat.le_of_ble_eq_true rfl) dL_law_936 (fun r1_ M2_ q3_ => ?_)
  obtain ⟨hI1_, hF1_, -, hs1_⟩ := q3_
  have e1_ : mgC M2_ M = M2_ := mgC_self hF1_ SC_X11_heads
  rw [e1_]
  have hD1_ : InvD M2_ := e1_ ▸ mgC_D (M' := M2_) hD
  refine wl_pop X dL_law_939 ?_
  refine wl_aload_n X dL_law_940 rfl 3 rfl ?_
  refine wl_arg X 1 hi (by decide) (v := 1) (by decide) (ki := 1) (by decide) 1 0 rfl rfl dL_law_941 dL_law_942 dL_law_943 dL_law_944 dL_law_945 ?_
  refine wl_arg X 2 hi (by decide) (v := 2) (by decide) (ki := 2) (by decide) 1 0 rfl rfl dL_law_946 dL_law_947 dL_law_948 dL_law_949 dL_law_950 ?_
  refine wl_callD X (as := [vI (xs (i.toInt.toNat + 1)), vI (xs (i.toInt.toNat + 2))]) (rest := []) (c_X12_heads l G cy ad 0 (xs (i.toInt.toNat + 1)) (xs (i.toInt.toNat + 2)) M2_ hD1_) kV_X12_heads pnn_17 (Nat.le_of_ble_eq_true rfl) m_1699 rfl rfl rfl (by decide) (Nat.le_of_ble_eq_true rfl) (Nat.le_of_ble_eq_true rfl) dL_law_951 (fun r4_ M5_ q6_ => ?_)
  obtain ⟨hI2_, hF2_, -, hs2_⟩ := q6_
  have e2_ : (mgD M5_ M2_).1 = M5_.1 := mgD_self hF2_ SD_X12_heads
  have hI9_ : Inv (mgD M5_ M2_) := mgD_I hI1_
  have hD9_ : InvD (mgD M5_ M2_) := mgD_D hI2_
  have st_ := sy_19 hR hD hD1_ hI2_ hF1_ hs1_ hF2_ hs2_
  refine wl_pop X dL_law_954 ?_
  refine wl_goto X (tgt := 1731) dL_law_955 (by decide) ?_
  exact hend _ hI9_ hD9_ (by rw [e2_]; exact st_.1)
end
section
set_option maxHeartbeats 4000000 in
set_option maxRecDepth 100000 in
theorem law_case_20 {p : Program} {l : Launch} {e : Env} {s : State} {m : MethodId} {below : List Frame} {meth : Method} {c : Code} {b L : Nat} {xs : Nat → Int32} {A : Nat → Prop} {G : va_G} {cy : Nat → ClassId} {ad : rf → Nat} {ce sl : Nat} {Z : State → Prop} (X : LX p s m c b L xs A G cy ad ce sl) {i : Int32} {M : mM} (hI : Inv M) (hD : InvD M) (hR : RY M.1) (hi : 0 ≤ i.toInt ∧ i.toInt + 6 ≤ (L : Int)) (hend : ∀ M' : mM, Inv M' → InvD M' → RY M'.1 → WL p l e s m below meth c b A G cy ad ce sl Z 1731 [(3, vI i), (0, vR (94, 0, 0)), (1, vR (11, 0, 0)), (2, vR (12, 0, 0))] [] M') : WL p l e s m below meth c b A G cy ad ce sl Z 958 [(3, vI i), (0, vR (94, 0, 0)), (1, vR (11, 0, 0)), (2, vR (12, 0, 0))] [] M := by
  refine wl_aload_n X dL_law_958 rfl 2 rfl ?_
  refine wl_arg X 1 hi (by decide) (v := 1) (by decide) (ki := 1) (by decide) 1 0 rfl rfl dL_law_959 dL_law_960 dL_law_961 dL_law_962 dL_law_963 ?_
  refine wl_arg X 2 hi (by decide) (v := 2) (by decide) (ki := 2) (by decide) 1 0 rfl rfl dL_law_964 dL_law_965 dL_law_966 dL_law_967 dL_law_968 ?_
  refine wl_arg X 3 hi (by decide) (v := 3) (by decide) (ki := 3) (by decide) 1 0 rfl rfl dL_law_969 dL_law_970 dL_law_971 dL_law_972 dL_law_973 ?_
  refine wl_arg X 4 hi (by decide) (v := 4) (by decide) (ki := 4) (by decide) 1 0 rfl rfl dL_law_974 dL_law_975 dL_law_976 dL_law_977 dL_law_978 ?_
  refine wl_arg X 5 hi (by decide) (v := 5) (by decide) (ki := 5) (by decide) 1 0 rfl rfl dL_law_979 dL_law_980 dL_law_981 dL_law_982 dL_law_983 ?_
  refine wl_callC X (as := [vI (xs (i.toInt.toNat + 1)), vI (xs (i.toInt.toNat + 2)), vI (xs (i.toInt.toNat + 3)), vI (xs (i.toInt.toNat + 4)), vI (xs (i.toInt.toNat + 5))]) (rest := []) (c_X11_alike l G cy ad 0 (xs (i.toInt.toNat + 1)) (xs (i.toInt.toNat + 2)) (xs (i.toInt.toNat + 3)) (xs (i.toInt.toNat + 4)) (xs (i.toInt.toNat + 5)) M hI) kV_X11_alike pnn_0 (Nat.le_of_ble_eq_true rfl) m_947 rfl rfl rfl (by decide) (Nat.le_of_ble_eq_true rfl) (Nat.le_of_ble_eq_true rfl) dL_law_984 (fun r1_ M2_ q3_ => ?_)
  obtain ⟨hI1_, hF1_, -, hs1_⟩ := q3_
  have e1_ : mgC M2_ M = M2_ := mgC_self hF1_ SC_X11_alike
  rw [e1_]
  have hD1_ : InvD M2_ := e1_ ▸ mgC_D (M' := M2_) hD
  refine wl_pop X dL_law_987 ?_
  refine wl_aload_n X dL_law_988 rfl 3 rfl ?_
  refine wl_arg X 1 hi (by decide) (v := 1) (by decide) (ki := 1) (by decide) 1 0 rfl rfl dL_law_989 dL_law_990 dL_law_991 dL_law_992 dL_law_993 ?_
  refine wl_arg X 2 hi (by decide) (v := 2) (by decide) (ki := 2) (by decide) 1 0 rfl rfl dL_law_994 dL_law_995 dL_law_996 dL_law_997 dL_law_998 ?_
  refine wl_arg X 3 hi (by decide) (v := 3) (by decide) (ki := 3) (by decide) 1 0 rfl rfl dL_law_999 dL_law_1000 dL_law_1001 dL_law_1002 dL_law_1003 ?_
  refine wl_arg X 4 hi (by decide) (v := 4) (by decide) (ki := 4) (by decide) 1 0 rfl rfl dL_law_1004 dL_law_1005 dL_law_1006 dL_law_1007 dL_law_1008 ?_
  refine wl_arg X 5 hi (by decide) (v := 5) (by decide) (ki := 5) (by decide) 1 0 rfl rfl dL_law_1009 dL_law_1010 dL_law_1011 dL_law_1012 dL_law_1013 ?_
  refine wl_callD X (as := [vI (xs (i.toInt.toNat + 1)), vI (xs (i.toInt.toNat + 2)), vI (xs (i.toInt.toNat + 3)), vI (xs (i.toInt.toNat + 4)), vI (xs (i.toInt.toNat + 5))]) (rest := []) (c_X12_alike l G cy ad 0 (xs (i.toInt.toNat + 1)) (xs (i.toInt.toNat + 2)) (xs (i.toInt.toNat + 3)) (xs (i.toInt.toNat + 4)) (xs (i.toInt.toNat + 5)) M2_ hD1_) kV_X12_alike pnn_17 (Nat.le_of_ble_eq_true rfl) m_1703 rfl rfl rfl (by decide) (Nat.le_of_ble_eq_true rfl) (Nat.le_of_ble_eq_true rfl) dL_law_1014 (fun r4_ M5_ q6_ => ?_)
  obtain ⟨hI2_, hF2_, -, hs2_⟩ := q6_
  have e2_ : (mgD M5_ M2_).1 = M5_.1 := mgD_self hF2_ SD_X12_alike
  have hI9_ : Inv (mgD M5_ M2_) := mgD_I hI1_
  have hD9_ : InvD (mgD M5_ M2_) := mgD_D hI2_
  have st_ := sy_20 hR hD hD1_ hI2_ hF1_ hs1_ hF2_ hs2_
  refine wl_pop X dL_law_1017 ?_
  refine wl_goto X (tgt := 1731) dL_law_1018 (by decide) ?_
  exact hend _ hI9_ hD9_ (by rw [e2_]; exact st_.1)
set_option maxHeartbeats 4000000 in
set_option maxRecDepth 100000 in
theorem law_case_21 {p : Program} {l : Launch} {e : Env} {s : State} {m : MethodId} {below : List Frame} {meth : Method} {c : Code} {b L : Nat} {xs : Nat → Int32} {A : Nat → Prop} {G : va_G} {cy : Nat → ClassId} {ad : rf → Nat} {ce sl : Nat} {Z : State → Prop} (X : LX p s m c b L xs A G cy ad ce sl) {i : Int32} {M : mM} (hI : Inv M) (hD : InvD M) (hR : RY M.1) (hi : 0 ≤ i.toInt ∧ i.toInt + 6 ≤ (L : Int)) (hend : ∀ M' : mM, Inv M' → InvD M' → RY M'.1 → WL p l e s m below meth c b A G cy ad ce sl Z 1731 [(3, vI i), (0, vR (94, 0, 0)), (1, vR (11, 0, 0)), (2, vR (12, 0, 0))] [] M') : WL p l e s m below meth c b A G cy ad ce sl Z 1021 [(3, vI i), (0, vR (94, 0, 0)), (1, vR (11, 0, 0)), (2, vR (12, 0, 0))] [] M := by
  refine wl_aload_n X dL_law_1021 rfl 2 rfl ?_
  refine wl_arg X 1 hi (by decide) (v := 1) (by decide) (ki := 1) (by decide) 1 0 rfl rfl dL_law_1022 dL_law_1023 dL_law_1024 dL_law_1025 dL_law_1026 ?_
  refine wl_arg X 2 hi (by decide) (v := 2) (by decide) (ki := 2) (by decide) 1 0 rfl rfl dL_law_1027 dL_law_1028 dL_law_1029 dL_law_1030 dL_law_1031 ?_
  refine wl_arg X 3 hi (by decide) (v := 3) (by decide) (ki := 3) (by decide) 1 0 rfl rfl dL_law_1032 dL_law_1033 dL_law_1034 dL_law_1035 dL_law_1036 ?_
  refine wl_arg X 4 hi (by decide) (v := 4) (by decide) (ki := 4) (by decide) 1 0 rfl rfl dL_law_1037 dL_law_1038 dL_law_1039 dL_law_1040 dL_law_1041 ?_
  refine wl_callC X (as := [vI (xs (i.toInt.toNat + 1)), vI (xs (i.toInt.toNat + 2)), vI (xs (i.toInt.toNat + 3)), vI (xs (i.toInt.toNat + 4))]) (rest := []) (c_X11_least l G cy ad 0 (xs (i.toInt.toNat + 1)) (xs (i.toInt.toNat + 2)) (xs (i.toInt.toNat + 3)) (xs (i.toInt.toNat + 4)) M hI) kV_X11_least pnn_0 (Nat.le_of_ble_eq_true rfl) m_957 rfl rfl rfl (by decide) (Nat.le_of_ble_eq_true rfl) (Nat.le_of_ble_eq_true rfl) dL_law_1042 (fun r1_ M2_ q3_ => ?_)
  obtain ⟨hI1_, hF1_, -, hs1_⟩ := q3_
  have e1_ : mgC M2_ M = M2_ := mgC_self hF1_ SC_X11_least
  rw [e1_]
  have hD1_ : InvD M2_ := e1_ ▸ mgC_D (M' := M2_) hD
  refine wl_pop X dL_law_1045 ?_
  refine wl_aload_n X dL_law_1046 rfl 3 rfl ?_
  refine wl_arg X 1 hi (by decide) (v := 1) (by decide) (ki := 1) (by decide) 1 0 rfl rfl dL_law_1047 dL_law_1048 dL_law_1049 dL_law_1050 dL_law_1051 ?_
  refine wl_arg X 2 hi (by decide) (v := 2) (by decide) (ki := 2) (by decide) 1 0 rfl rfl dL_law_1052 dL_law_1053 dL_law_1054 dL_law_1055 dL_law_1056 ?_
  refine wl_arg X 3 hi (by decide) (v := 3) (by decide) (ki := 3) (by decide) 1 0 rfl rfl dL_law_1057 dL_law_1058 dL_law_1059 dL_law_1060 dL_law_1061 ?_
  refine wl_arg X 4 hi (by decide) (v := 4) (by decide) (ki := 4) (by decide) 1 0 rfl rfl dL_law_1062 dL_law_1063 dL_law_1064 dL_law_1065 dL_law_1066 ?_
  refine wl_callD X (as := [vI (xs (i.toInt.toNat + 1)), vI (xs (i.toInt.toNat + 2)), vI (xs (i.toInt.toNat + 3)), vI (xs (i.toInt.toNat + 4))]) (rest := []) (c_X12_least l G cy ad 0 (xs (i.toInt.toNat + 1)) (xs (i.toInt.toNat + 2)) (xs (i.toInt.toNat + 3)) (xs (i.toInt.toNat + 4)) M2_ hD1_) kV_X12_least pnn_17 (Nat.le_of_ble_eq_true rfl) m_1707 rfl rfl rfl (by decide) (Nat.le_of_ble_eq_true rfl) (Nat.le_of_ble_eq_true rfl) dL_law_1067 (fun r4_ M5_ q6_ => ?_)
  obtain ⟨hI2_, hF2_, -, hs2_⟩ := q6_
  have e2_ : (mgD M5_ M2_).1 = M5_.1 := mgD_self hF2_ SD_X12_least
  have hI9_ : Inv (mgD M5_ M2_) := mgD_I hI1_
  have hD9_ : InvD (mgD M5_ M2_) := mgD_D hI2_
  have st_ := sy_21 hR hD hD1_ hI2_ hF1_ hs1_ hF2_ hs2_
  refine wl_pop X dL_law_1070 ?_
  refine wl_goto X (tgt := 1731) dL_law_1071 (by decide) ?_
  exact hend _ hI9_ hD9_ (by rw [e2_]; exact st_.1)
set_option maxHeartbeats 4000000 in
set_option maxRecDepth 100000 in
theorem law_case_22 {p : Program} {l : Launch} {e : Env} {s : State} {m : MethodId} {below : List Frame} {meth : Method} {c : Code} {b L : Nat} {xs : Nat → Int32} {A : Nat → Prop} {G : va_G} {cy : Nat → ClassId} {ad : rf → Nat} {ce sl : Nat} {Z : State → Prop} (X : LX p s m c b L xs A G cy ad ce sl) {i : Int32} {M : mM} (hI : Inv M) (hD : InvD M) (hR : RY M.1) (hi : 0 ≤ i.toInt ∧ i.toInt + 6 ≤ (L : Int)) (hend : ∀ M' : mM, Inv M' → InvD M' → RY M'.1 → WL p l e s m below meth c b A G cy ad ce sl Z 1731 [(3, vI i), (0, vR (94, 0, 0)), (1, vR (11, 0, 0)), (2, vR (12, 0, 0))] [] M') : WL p l e s m below meth c b A G cy ad ce sl Z 1074 [(3, vI i), (0, vR (94, 0, 0)), (1, vR (11, 0, 0)), (2, vR (12, 0, 0))] [] M := by
  refine wl_aload_n X dL_law_1074 rfl 2 rfl ?_
  refine wl_arg X 1 hi (by decide) (v := 1) (by decide) (ki := 1) (by decide) 1 0 rfl rfl dL_law_1075 dL_law_1076 dL_law_1077 dL_law_1078 dL_law_1079 ?_
  refine wl_arg X 2 hi (by decide) (v := 2) (by decide) (ki := 2) (by decide) 1 0 rfl rfl dL_law_1080 dL_law_1081 dL_law_1082 dL_law_1083 dL_law_1084 ?_
  refine wl_arg X 3 hi (by decide) (v := 3) (by decide) (ki := 3) (by decide) 1 0 rfl rfl dL_law_1085 dL_law_1086 dL_law_1087 dL_law_1088 dL_law_1089 ?_
  refine wl_callC X (as := [vI (xs (i.toInt.toNat + 1)), vI (xs (i.toInt.toNat + 2)), vI (xs (i.toInt.toNat + 3))]) (rest := []) (c_X11_farthest l G cy ad 0 (xs (i.toInt.toNat + 1)) (xs (i.toInt.toNat + 2)) (xs (i.toInt.toNat + 3)) M hI) kV_X11_farthest pnn_0 (Nat.le_of_ble_eq_true rfl) m_969 rfl rfl rfl (by decide) (Nat.le_of_ble_eq_true rfl) (Nat.le_of_ble_eq_true rfl) dL_law_1090 (fun r1_ M2_ q3_ => ?_)
  obtain ⟨hI1_, hF1_, -, hs1_⟩ := q3_
  have e1_ : mgC M2_ M = M2_ := mgC_self hF1_ SC_X11_farthest
  rw [e1_]
  have hD1_ : InvD M2_ := e1_ ▸ mgC_D (M' := M2_) hD
  refine wl_pop X dL_law_1093 ?_
  refine wl_aload_n X dL_law_1094 rfl 3 rfl ?_
  refine wl_arg X 1 hi (by decide) (v := 1) (by decide) (ki := 1) (by decide) 1 0 rfl rfl dL_law_1095 dL_law_1096 dL_law_1097 dL_law_1098 dL_law_1099 ?_
  refine wl_arg X 2 hi (by decide) (v := 2) (by decide) (ki := 2) (by decide) 1 0 rfl rfl dL_law_1100 dL_law_1101 dL_law_1102 dL_law_1103 dL_law_1104 ?_
  refine wl_arg X 3 hi (by decide) (v := 3) (by decide) (ki := 3) (by decide) 1 0 rfl rfl dL_law_1105 dL_law_1106 dL_law_1107 dL_law_1108 dL_law_1109 ?_
  refine wl_callD X (as := [vI (xs (i.toInt.toNat + 1)), vI (xs (i.toInt.toNat + 2)), vI (xs (i.toInt.toNat + 3))]) (rest := []) (c_X12_farthest l G cy ad 0 (xs (i.toInt.toNat + 1)) (xs (i.toInt.toNat + 2)) (xs (i.toInt.toNat + 3)) M2_ hD1_) kV_X12_farthest pnn_17 (Nat.le_of_ble_eq_true rfl) m_1711 rfl rfl rfl (by decide) (Nat.le_of_ble_eq_true rfl) (Nat.le_of_ble_eq_true rfl) dL_law_1110 (fun r4_ M5_ q6_ => ?_)
  obtain ⟨hI2_, hF2_, -, hs2_⟩ := q6_
  have e2_ : (mgD M5_ M2_).1 = M5_.1 := mgD_self hF2_ SD_X12_farthest
  have hI9_ : Inv (mgD M5_ M2_) := mgD_I hI1_
  have hD9_ : InvD (mgD M5_ M2_) := mgD_D hI2_
  have st_ := sy_22 hR hD hD1_ hI2_ hF1_ hs1_ hF2_ hs2_
  refine wl_pop X dL_law_1113 ?_
  refine wl_goto X (tgt := 1731) dL_law_1114 (by decide) ?_
  exact hend _ hI9_ hD9_ (by rw [e2_]; exact st_.1)
set_option maxHeartbeats 4000000 in
set_option maxRecDepth 100000 in
theorem law_case_23 {p : Program} {l : Launch} {e : Env} {s : State} {m : MethodId} {below : List Frame} {meth : Method} {c : Code} {b L : Nat} {xs : Nat → Int32} {A : Nat → Prop} {G : va_G} {cy : Nat → ClassId} {ad : rf → Nat} {ce sl : Nat} {Z : State → Prop} (X : LX p s m c b L xs A G cy ad ce sl) {i : Int32} {M : mM} (hI : Inv M) (hD : InvD M) (hR : RY M.1) (hi : 0 ≤ i.toInt ∧ i.toInt + 6 ≤ (L : Int)) (hend : ∀ M' : mM, Inv M' → InvD M' → RY M'.1 → WL p l e s m below meth c b A G cy ad ce sl Z 1731 [(3, vI i), (0, vR (94, 0, 0)), (1, vR (11, 0, 0)), (2, vR (12, 0, 0))] [] M') : WL p l e s m below meth c b A G cy ad ce sl Z 1117 [(3, vI i), (0, vR (94, 0, 0)), (1, vR (11, 0, 0)), (2, vR (12, 0, 0))] [] M := by
  refine wl_aload_n X dL_law_1117 rfl 2 rfl ?_
  refine wl_arg X 1 hi (by decide) (v := 1) (by decide) (ki := 1) (by decide) 1 0 rfl rfl dL_law_1118 dL_law_1119 dL_law_1120 dL_law_1121 dL_law_1122 ?_
  refine wl_arg X 2 hi (by decide) (v := 2) (by decide) (ki := 2) (by decide) 1 0 rfl rfl dL_law_1123 dL_law_1124 dL_law_1125 dL_law_1126 dL_law_1127 ?_
  refine wl_arg X 3 hi (by decide) (v := 3) (by decide) (ki := 3) (by decide) 1 0 rfl rfl dL_law_1128 dL_law_1129 dL_law_1130 dL_law_1131 dL_law_1132 ?_
  refine wl_arg X 4 hi (by decide) (v := 4) (by decide) (ki := 4) (by decide) 1 0 rfl rfl dL_law_1133 dL_law_1134 dL_law_1135 dL_law_1136 dL_law_1137 ?_
  refine wl_callC X (as := [vI (xs (i.toInt.toNat + 1)), vI (xs (i.toInt.toNat + 2)), vI (xs (i.toInt.toNat + 3)), vI (xs (i.toInt.toNat + 4))]) (rest := []) (c_X11_spots l G cy ad 0 (xs (i.toInt.toNat + 1)) (xs (i.toInt.toNat + 2)) (xs (i.toInt.toNat + 3)) (xs (i.toInt.toNat + 4)) M hI) kV_X11_spots pnn_0 (Nat.le_of_ble_eq_true rfl) m_974 rfl rfl rfl (by decide) (Nat.le_of_ble_eq_true rfl) (Nat.le_of_ble_eq_true rfl) dL_law_1138 (fun r1_ M2_ q3_ => ?_)
  obtain ⟨hI1_, hF1_, -, hs1_⟩ := q3_
  have e1_ : mgC M2_ M = M2_ := mgC_self hF1_ SC_X11_spots
  rw [e1_]
  have hD1_ : InvD M2_ := e1_ ▸ mgC_D (M' := M2_) hD
  refine wl_pop X dL_law_1141 ?_
  refine wl_aload_n X dL_law_1142 rfl 3 rfl ?_
  refine wl_arg X 1 hi (by decide) (v := 1) (by decide) (ki := 1) (by decide) 1 0 rfl rfl dL_law_1143 dL_law_1144 dL_law_1145 dL_law_1146 dL_law_1147 ?_
  refine wl_arg X 2 hi (by decide) (v := 2) (by decide) (ki := 2) (by decide) 1 0 rfl rfl dL_law_1148 dL_law_1149 dL_law_1150 dL_law_1151 dL_law_1152 ?_
  refine wl_arg X 3 hi (by decide) (v := 3) (by decide) (ki := 3) (by decide) 1 0 rfl rfl dL_law_1153 dL_law_1154 dL_law_1155 dL_law_1156 dL_law_1157 ?_
  refine wl_arg X 4 hi (by decide) (v := 4) (by decide) (ki := 4) (by decide) 1 0 rfl rfl dL_law_1158 dL_law_1159 dL_law_1160 dL_law_1161 dL_law_1162 ?_
  refine wl_callD X (as := [vI (xs (i.toInt.toNat + 1)), vI (xs (i.toInt.toNat + 2)), vI (xs (i.toInt.toNat + 3)), vI (xs (i.toInt.toNat + 4))]) (rest := []) (c_X12_spots l G cy ad 0 (xs (i.toInt.toNat + 1)) (xs (i.toInt.toNat + 2)) (xs (i.toInt.toNat + 3)) (xs (i.toInt.toNat + 4)) M2_ hD1_) kV_X12_spots pnn_17 (Nat.le_of_ble_eq_true rfl) m_1715 rfl rfl rfl (by decide) (Nat.le_of_ble_eq_true rfl) (Nat.le_of_ble_eq_true rfl) dL_law_1163 (fun r4_ M5_ q6_ => ?_)
  obtain ⟨hI2_, hF2_, -, hs2_⟩ := q6_
  have e2_ : (mgD M5_ M2_).1 = M5_.1 := mgD_self hF2_ SD_X12_spots
  have hI9_ : Inv (mgD M5_ M2_) := mgD_I hI1_
  have hD9_ : InvD (mgD M5_ M2_) := mgD_D hI2_
  have st_ := sy_23 hR hD hD1_ hI2_ hF1_ hs1_ hF2_ hs2_
  refine wl_pop X dL_law_1166 ?_
  refine wl_goto X (tgt := 1731) dL_law_1167 (by decide) ?_
  exact hend _ hI9_ hD9_ (by rw [e2_]; exact st_.1)
set_option maxHeartbeats 4000000 in
set_option maxRecDepth 100000 in
theorem law_case_24 {p : Program} {l : Launch} {e : Env} {s : State} {m : MethodId} {below : List Frame} {meth : Method} {c : Code} {b L : Nat} {xs : Nat → Int32} {A : Nat → Prop} {G : va_G} {cy : Nat → ClassId} {ad : rf → Nat} {ce sl : Nat} {Z : State → Prop} (X : LX p s m c b L xs A G cy ad ce sl) {i : Int32} {M : mM} (hI : Inv M) (hD : InvD M) (hR : RY M.1) (hi : 0 ≤ i.toInt ∧ i.toInt + 6 ≤ (L : Int)) (hend : ∀ M' : mM, Inv M' → InvD M' → RY M'.1 → WL p l e s m below meth c b A G cy ad ce sl Z 1731 [(3, vI i), (0, vR (94, 0, 0)), (1, vR (11, 0, 0)), (2, vR (12, 0, 0))] [] M') : WL p l e s m below meth c b A G cy ad ce sl Z 1170 [(3, vI i), (0, vR (94, 0, 0)), (1, vR (11, 0, 0)), (2, vR (12, 0, 0))] [] M := by
  refine wl_aload_n X dL_law_1170 rfl 2 rfl ?_
  refine wl_arg X 1 hi (by decide) (v := 1) (by decide) (ki := 1) (by decide) 1 0 rfl rfl dL_law_1171 dL_law_1172 dL_law_1173 dL_law_1174 dL_law_1175 ?_
  refine wl_callC X (as := [vI (xs (i.toInt.toNat + 1))]) (rest := []) (c_X11_tenths l G cy ad 0 (xs (i.toInt.toNat + 1)) M hI) kV_X11_tenths pnn_0 (Nat.le_of_ble_eq_true rfl) m_1021 rfl rfl rfl (by decide) (Nat.le_of_ble_eq_true rfl) (Nat.le_of_ble_eq_true rfl) dL_law_1176 (fun r1_ M2_ q3_ => ?_)
  obtain ⟨hI1_, hF1_, -, hs1_⟩ := q3_
  have e1_ : mgC M2_ M = M2_ := mgC_self hF1_ SC_X11_tenths
  rw [e1_]
  have hD1_ : InvD M2_ := e1_ ▸ mgC_D (M' := M2_) hD
  refine wl_pop X dL_law_1179 ?_
  refine wl_aload_n X dL_law_1180 rfl 3 rfl ?_
  refine wl_arg X 1 hi (by decide) (v := 1) (by decide) (ki := 1) (by decide) 1 0 rfl rfl dL_law_1181 dL_law_1182 dL_law_1183 dL_law_1184 dL_law_1185 ?_
  refine wl_callD X (as := [vI (xs (i.toInt.toNat + 1))]) (rest := []) (c_X12_tenths l G cy ad 0 (xs (i.toInt.toNat + 1)) M2_ hD1_) kV_X12_tenths pnn_17 (Nat.le_of_ble_eq_true rfl) m_1734 rfl rfl rfl (by decide) (Nat.le_of_ble_eq_true rfl) (Nat.le_of_ble_eq_true rfl) dL_law_1186 (fun r4_ M5_ q6_ => ?_)
  obtain ⟨hI2_, hF2_, -, hs2_⟩ := q6_
  have e2_ : (mgD M5_ M2_).1 = M5_.1 := mgD_self hF2_ SD_X12_tenths
  have hI9_ : Inv (mgD M5_ M2_) := mgD_I hI1_
  have hD9_ : InvD (mgD M5_ M2_) := mgD_D hI2_
  have st_ := sy_24 hR hD hD1_ hI2_ hF1_ hs1_ hF2_ hs2_
  refine wl_pop X dL_law_1189 ?_
  refine wl_goto X (tgt := 1731) dL_law_1190 (by decide) ?_
  exact hend _ hI9_ hD9_ (by rw [e2_]; exact st_.1)
set_option maxHeartbeats 4000000 in
set_option maxRecDepth 100000 in
theorem law_case_25 {p : Program} {l : Launch} {e : Env} {s : State} {m : MethodId} {below : List Frame} {meth : Method} {c : Code} {b L : Nat} {xs : Nat → Int32} {A : Nat → Prop} {G : va_G} {cy : Nat → ClassId} {ad : rf → Nat} {ce sl : Nat} {Z : State → Prop} (X : LX p s m c b L xs A G cy ad ce sl) {i : Int32} {M : mM} (hI : Inv M) (hD : InvD M) (hR : RY M.1) (hi : 0 ≤ i.toInt ∧ i.toInt + 6 ≤ (L : Int)) (hend : ∀ M' : mM, Inv M' → InvD M' → RY M'.1 → WL p l e s m below meth c b A G cy ad ce sl Z 1731 [(3, vI i), (0, vR (94, 0, 0)), (1, vR (11, 0, 0)), (2, vR (12, 0, 0))] [] M') : WL p l e s m below meth c b A G cy ad ce sl Z 1193 [(3, vI i), (0, vR (94, 0, 0)), (1, vR (11, 0, 0)), (2, vR (12, 0, 0))] [] M := by
  refine wl_aload_n X dL_law_1193 rfl 2 rfl ?_
  refine wl_arg X 1 hi (by decide) (v := 1) (by decide) (ki := 1) (by decide) 1 0 rfl rfl dL_law_1194 dL_law_1195 dL_law_1196 dL_law_1197 dL_law_1198 ?_
  refine wl_arg X 2 hi (by decide) (v := 2) (by decide) (ki := 2) (by decide) 1 0 rfl rfl dL_law_1199 dL_law_1200 dL_law_1201 dL_law_1202 dL_law_1203 ?_
  refine wl_arg X 3 hi (by decide) (v := 3) (by decide) (ki := 3) (by decide) 1 0 rfl rfl dL_law_1204 dL_law_1205 dL_law_1206 dL_law_1207 dL_law_1208 ?_
  refine wl_callC X (as := [vI (xs (i.toInt.toNat + 1)), vI (xs (i.toInt.toNat + 2)), vI (xs (i.toInt.toNat + 3))]) (rest := []) (c_X11_way l G cy ad 0 (xs (i.toInt.toNat + 1)) (xs (i.toInt.toNat + 2)) (xs (i.toInt.toNat + 3)) M hI) kV_X11_way pnn_0 (Nat.le_of_ble_eq_true rfl) m_1067 rfl rfl rfl (by decide) (Nat.le_of_ble_eq_true rfl) (Nat.le_of_ble_eq_true rfl) dL_law_1209 (fun r1_ M2_ q3_ => ?_)
  obtain ⟨hI1_, hF1_, -, hs1_⟩ := q3_
  have e1_ : mgC M2_ M = M2_ := mgC_self hF1_ SC_X11_way
  rw [e1_]
  have hD1_ : InvD M2_ := e1_ ▸ mgC_D (M' := M2_) hD
  refine wl_pop X dL_law_1212 ?_
  refine wl_aload_n X dL_law_1213 rfl 3 rfl ?_
  refine wl_arg X 1 hi (by decide) (v := 1) (by decide) (ki := 1) (by decide) 1 0 rfl rfl dL_law_1214 dL_law_1215 dL_law_1216 dL_law_1217 dL_law_1218 ?_
  refine wl_arg X 2 hi (by decide) (v := 2) (by decide) (ki := 2) (by decide) 1 0 rfl rfl dL_law_1219 dL_law_1220 dL_law_1221 dL_law_1222 dL_law_1223 ?_
  refine wl_arg X 3 hi (by decide) (v := 3) (by decide) (ki := 3) (by decide) 1 0 rfl rfl dL_law_1224 dL_law_1225 dL_law_1226 dL_law_1227 dL_law_1228 ?_
  refine wl_callD X (as := [vI (xs (i.toInt.toNat + 1)), vI (xs (i.toInt.toNat + 2)), vI (xs (i.toInt.toNat + 3))]) (rest := []) (c_X12_way l G cy ad 0 (xs (i.toInt.toNat + 1)) (xs (i.toInt.toNat + 2)) (xs (i.toInt.toNat + 3)) M2_ hD1_) kV_X12_way pnn_17 (Nat.le_of_ble_eq_true rfl) m_1762 rfl rfl rfl (by decide) (Nat.le_of_ble_eq_true rfl) (Nat.le_of_ble_eq_true rfl) dL_law_1229 (fun r4_ M5_ q6_ => ?_)
  obtain ⟨hI2_, hF2_, -, hs2_⟩ := q6_
  have e2_ : (mgD M5_ M2_).1 = M5_.1 := mgD_self hF2_ SD_X12_way
  have hI9_ : Inv (mgD M5_ M2_) := mgD_I hI1_
  have hD9_ : InvD (mgD M5_ M2_) := mgD_D hI2_
  have st_ := sy_25 hR hD hD1_ hI2_ hF1_ hs1_ hF2_ hs2_
  refine wl_pop X dL_law_1232 ?_
  refine wl_goto X (tgt := 1731) dL_law_1233 (by decide) ?_
  exact hend _ hI9_ hD9_ (by rw [e2_]; exact st_.1)
set_option maxHeartbeats 4000000 in
set_option maxRecDepth 100000 in
theorem law_case_26 {p : Program} {l : Launch} {e : Env} {s : State} {m : MethodId} {below : List Frame} {meth : Method} {c : Code} {b L : Nat} {xs : Nat → Int32} {A : Nat → Prop} {G : va_G} {cy : Nat → ClassId} {ad : rf → Nat} {ce sl : Nat} {Z : State → Prop} (X : LX p s m c b L xs A G cy ad ce sl) {i : Int32} {M : mM} (hI : Inv M) (hD : InvD M) (hR : RY M.1) (hi : 0 ≤ i.toInt ∧ i.toInt + 6 ≤ (L : Int)) (hend : ∀ M' : mM, Inv M' → InvD M' → RY M'.1 → WL p l e s m below meth c b A G cy ad ce sl Z 1731 [(3, vI i), (0, vR (94, 0, 0)), (1, vR (11, 0, 0)), (2, vR (12, 0, 0))] [] M') : WL p l e s m below meth c b A G cy ad ce sl Z 1236 [(3, vI i), (0, vR (94, 0, 0)), (1, vR (11, 0, 0)), (2, vR (12, 0, 0))] [] M := by
  refine wl_aload_n X dL_law_1236 rfl 2 rfl ?_
  refine wl_arg X 1 hi (by decide) (v := 1) (by decide) (ki := 1) (by decide) 1 0 rfl rfl dL_law_1237 dL_law_1238 dL_law_1239 dL_law_1240 dL_law_1241 ?_
  refine wl_callC X (as := [vI (xs (i.toInt.toNat + 1))]) (rest := []) (c_X11_safe l G cy ad 0 (xs (i.toInt.toNat + 1)) M hI) kV_X11_safe pnn_0 (Nat.le_of_ble_eq_true rfl) m_1098 rfl rfl rfl (by decide) (Nat.le_of_ble_eq_true rfl) (Nat.le_of_ble_eq_true rfl) dL_law_1242 (fun r1_ M2_ q3_ => ?_)
  obtain ⟨hI1_, hF1_, -, hs1_⟩ := q3_
  have e1_ : mgC M2_ M = M2_ := mgC_self hF1_ SC_X11_safe
  rw [e1_]
  have hD1_ : InvD M2_ := e1_ ▸ mgC_D (M' := M2_) hD
  refine wl_pop X dL_law_1245 ?_
  refine wl_aload_n X dL_law_1246 rfl 3 rfl ?_
  refine wl_arg X 1 hi (by decide) (v := 1) (by decide) (ki := 1) (by decide) 1 0 rfl rfl dL_law_1247 dL_law_1248 dL_law_1249 dL_law_1250 dL_law_1251 ?_
  refine wl_callD X (as := [vI (xs (i.toInt.toNat + 1))]) (rest := []) (c_X12_safe l G cy ad 0 (xs (i.toInt.toNat + 1)) M2_ hD1_) kV_X12_safe pnn_17 (Nat.le_of_ble_eq_true rfl) m_1775 rfl rfl rfl (by decide) (Nat.le_of_ble_eq_true rfl) (Nat.le_of_ble_eq_true rfl) dL_law_1252 (fun r4_ M5_ q6_ => ?_)
  obtain ⟨hI2_, hF2_, -, hs2_⟩ := q6_
  have e2_ : (mgD M5_ M2_).1 = M5_.1 := mgD_self hF2_ SD_X12_safe
  have hI9_ : Inv (mgD M5_ M2_) := mgD_I hI1_
  have hD9_ : InvD (mgD M5_ M2_) := mgD_D hI2_
  have st_ := sy_26 hR hD hD1_ hI2_ hF1_ hs1_ hF2_ hs2_
  refine wl_pop X dL_law_1255 ?_
  refine wl_goto X (tgt := 1731) dL_law_1256 (by decide) ?_
  exact hend _ hI9_ hD9_ (by rw [e2_]; exact st_.1)
set_option maxHeartbeats 4000000 in
set_option maxRecDepth 100000 in
theorem law_case_27 {p : Program} {l : Launch} {e : Env} {s : State} {m : MethodId} {below : List Frame} {meth : Method} {c : Code} {b L : Nat} {xs : Nat → Int32} {A : Nat → Prop} {G : va_G} {cy : Nat → ClassId} {ad : rf → Nat} {ce sl : Nat} {Z : State → Prop} (X : LX p s m c b L xs A G cy ad ce sl) {i : Int32} {M : mM} (hI : Inv M) (hD : InvD M) (hR : RY M.1) (hi : 0 ≤ i.toInt ∧ i.toInt + 6 ≤ (L : Int)) (hend : ∀ M' : mM, Inv M' → InvD M' → RY M'.1 → WL p l e s m below meth c b A G cy ad ce sl Z 1731 [(3, vI i), (0, vR (94, 0, 0)), (1, vR (11, 0, 0)), (2, vR (12, 0, 0))] [] M') : WL p l e s m below meth c b A G cy ad ce sl Z 1259 [(3, vI i), (0, vR (94, 0, 0)), (1, vR (11, 0, 0)), (2, vR (12, 0, 0))] [] M := by
  refine wl_aload_n X dL_law_1259 rfl 2 rfl ?_
  refine wl_arg X 1 hi (by decide) (v := 1) (by decide) (ki := 1) (by decide) 1 0 rfl rfl dL_law_1260 dL_law_1261 dL_law_1262 dL_law_1263 dL_law_1264 ?_
  refine wl_arg X 2 hi (by decide) (v := 2) (by decide) (ki := 2) (by decide) 1 0 rfl rfl dL_law_1265 dL_law_1266 dL_law_1267 dL_law_1268 dL_law_1269 ?_
  refine wl_arg X 3 hi (by decide) (v := 3) (by decide) (ki := 3) (by decide) 1 0 rfl rfl dL_law_1270 dL_law_1271 dL_law_1272 dL_law_1273 dL_law_1274 ?_
  refine wl_callC X (as := [vI (xs (i.toInt.toNat + 1)), vI (xs (i.toInt.toNat + 2)), vI (xs (i.toInt.toNat + 3))]) (rest := []) (c_X11_lesson l G cy ad 0 (xs (i.toInt.toNat + 1)) (xs (i.toInt.toNat + 2)) (xs (i.toInt.toNat + 3)) M hI) kV_X11_lesson pnn_0 (Nat.le_of_ble_eq_true rfl) m_1110 rfl rfl rfl (by decide) (Nat.le_of_ble_eq_true rfl) (Nat.le_of_ble_eq_true rfl) dL_law_1275 (fun r1_ M2_ q3_ => ?_)
  obtain ⟨hI1_, hF1_, -, hs1_⟩ := q3_
  have e1_ : mgC M2_ M = M2_ := mgC_self hF1_ SC_X11_lesson
  rw [e1_]
  have hD1_ : InvD M2_ := e1_ ▸ mgC_D (M' := M2_) hD
  refine wl_pop X dL_law_1278 ?_
  refine wl_aload_n X dL_law_1279 rfl 3 rfl ?_
  refine wl_arg X 1 hi (by decide) (v := 1) (by decide) (ki := 1) (by decide) 1 0 rfl rfl dL_law_1280 dL_law_1281 dL_law_1282 dL_law_1283 dL_law_1284 ?_
  refine wl_arg X 2 hi (by decide) (v := 2) (by decide) (ki := 2) (by decide) 1 0 rfl rfl dL_law_1285 dL_law_1286 dL_law_1287 dL_law_1288 dL_law_1289 ?_
  refine wl_arg X 3 hi (by decide) (v := 3) (by decide) (ki := 3) (by decide) 1 0 rfl rfl dL_law_1290 dL_law_1291 dL_law_1292 dL_law_1293 dL_law_1294 ?_
  refine wl_callD X (as := [vI (xs (i.toInt.toNat + 1)), vI (xs (i.toInt.toNat + 2)), vI (xs (i.toInt.toNat + 3))]) (rest := []) (c_X12_lesson l G cy ad 0 (xs (i.toInt.toNat + 1)) (xs (i.toInt.toNat + 2)) (xs (i.toInt.toNat + 3)) M2_ hD1_) kV_X12_lesson pnn_17 (Nat.le_of_ble_eq_true rfl) m_1779 rfl rfl rfl (by decide) (Nat.le_of_ble_eq_true rfl) (Nat.le_of_ble_eq_true rfl) dL_law_1295 (fun r4_ M5_ q6_ => ?_)
  obtain ⟨hI2_, hF2_, -, hs2_⟩ := q6_
  have e2_ : (mgD M5_ M2_).1 = M5_.1 := mgD_self hF2_ SD_X12_lesson
  have hI9_ : Inv (mgD M5_ M2_) := mgD_I hI1_
  have hD9_ : InvD (mgD M5_ M2_) := mgD_D hI2_
  have st_ := sy_27 hR hD hD1_ hI2_ hF1_ hs1_ hF2_ hs2_
  refine wl_pop X dL_law_1298 ?_
  refine wl_goto X (tgt := 1731) dL_law_1299 (by decide) ?_
  exact hend _ hI9_ hD9_ (by rw [e2_]; exact st_.1)
set_option maxHeartbeats 4000000 in
set_option maxRecDepth 100000 in
theorem law_case_28 {p : Program} {l : Launch} {e : Env} {s : State} {m : MethodId} {below : List Frame} {meth : Method} {c : Code} {b L : Nat} {xs : Nat → Int32} {A : Nat → Prop} {G : va_G} {cy : Nat → ClassId} {ad : rf → Nat} {ce sl : Nat} {Z : State → Prop} (X : LX p s m c b L xs A G cy ad ce sl) {i : Int32} {M : mM} (hI : Inv M) (hD : InvD M) (hR : RY M.1) (hi : 0 ≤ i.toInt ∧ i.toInt + 6 ≤ (L : Int)) (hend : ∀ M' : mM, Inv M' → InvD M' → RY M'.1 → WL p l e s m below meth c b A G cy ad ce sl Z 1731 [(3, vI i), (0, vR (94, 0, 0)), (1, vR (11, 0, 0)), (2, vR (12, 0, 0))] [] M') : WL p l e s m below meth c b A G cy ad ce sl Z 1302 [(3, vI i), (0, vR (94, 0, 0)), (1, vR (11, 0, 0)), (2, vR (12, 0, 0))] [] M := by
  refine wl_aload_n X dL_law_1302 rfl 2 rfl ?_
  refine wl_arg X 1 hi (by decide) (v := 1) (by decide) (ki := 1) (by decide) 1 0 rfl rfl dL_law_1303 dL_law_1304 dL_law_1305 dL_law_1306 dL_law_1307 ?_
  refine wl_arg X 2 hi (by decide) (v := 2) (by decide) (ki := 2) (by decide) 1 0 rfl rfl dL_law_1308 dL_law_1309 dL_law_1310 dL_law_1311 dL_law_1312 ?_
  refine wl_arg X 3 hi (by decide) (v := 3) (by decide) (ki := 3) (by decide) 1 0 rfl rfl dL_law_1313 dL_law_1314 dL_law_1315 dL_law_1316 dL_law_1317 ?_
  refine wl_callC X (as := [vI (xs (i.toInt.toNat + 1)), vI (xs (i.toInt.toNat + 2)), vI (xs (i.toInt.toNat + 3))]) (rest := []) (c_X11_learn l G cy ad 0 (xs (i.toInt.toNat + 1)) (xs (i.toInt.toNat + 2)) (xs (i.toInt.toNat + 3)) M hI) kV_X11_learn pnn_0 (Nat.le_of_ble_eq_true rfl) m_1125 rfl rfl rfl (by decide) (Nat.le_of_ble_eq_true rfl) (Nat.le_of_ble_eq_true rfl) dL_law_1318 (fun r1_ M2_ q3_ => ?_)
  obtain ⟨hI1_, hF1_, -, hs1_⟩ := q3_
  have e1_ : mgC M2_ M = M2_ := mgC_self hF1_ SC_X11_learn
  rw [e1_]
  have hD1_ : InvD M2_ := e1_ ▸ mgC_D (M' := M2_) hD
  refine wl_pop X dL_law_1321 ?_
  refine wl_aload_n X dL_law_1322 rfl 3 rfl ?_
  refine wl_arg X 1 hi (by decide) (v := 1) (by decide) (ki := 1) (by decide) 1 0 rfl rfl dL_law_1323 dL_law_1324 dL_law_1325 dL_law_1326 dL_law_1327 ?_
  refine wl_arg X 2 hi (by decide) (v := 2) (by decide) (ki := 2) (by decide) 1 0 rfl rfl dL_law_1328 dL_law_1329 dL_law_1330 dL_law_1331 dL_law_1332 ?_
  refine wl_arg X 3 hi (by decide) (v := 3) (by decide) (ki := 3) (by decide) 1 0 rfl rfl dL_law_1333 dL_law_1334 dL_law_1335 dL_law_1336 dL_law_1337 ?_
  refine wl_callD X (as := [vI (xs (i.toInt.toNat + 1)), vI (xs (i.toInt.toNat + 2)), vI (xs (i.toInt.toNat + 3))]) (rest := []) (c_X12_learn l G cy ad 0 (xs (i.toInt.toNat + 1)) (xs (i.toInt.toNat + 2)) (xs (i.toInt.toNat + 3)) M2_ hD1_) kV_X12_learn pnn_17 (Nat.le_of_ble_eq_true rfl) m_1783 rfl rfl rfl (by decide) (Nat.le_of_ble_eq_true rfl) (Nat.le_of_ble_eq_true rfl) dL_law_1338 (fun r4_ M5_ q6_ => ?_)
  obtain ⟨hI2_, hF2_, -, hs2_⟩ := q6_
  have e2_ : (mgD M5_ M2_).1 = M5_.1 := mgD_self hF2_ SD_X12_learn
  have hI9_ : Inv (mgD M5_ M2_) := mgD_I hI1_
  have hD9_ : InvD (mgD M5_ M2_) := mgD_D hI2_
  have st_ := sy_28 hR hD hD1_ hI2_ hF1_ hs1_ hF2_ hs2_
  refine wl_pop X dL_law_1341 ?_
  refine wl_goto X (tgt := 1731) dL_law_1342 (by decide) ?_
  exact hend _ hI9_ hD9_ (by rw [e2_]; exact st_.1)
set_option maxHeartbeats 4000000 in
set_option maxRecDepth 100000 in
theorem law_case_29 {p : Program} {l : Launch} {e : Env} {s : State} {m : MethodId} {below : List Frame} {meth : Method} {c : Code} {b L : Nat} {xs : Nat → Int32} {A : Nat → Prop} {G : va_G} {cy : Nat → ClassId} {ad : rf → Nat} {ce sl : Nat} {Z : State → Prop} (X : LX p s m c b L xs A G cy ad ce sl) {i : Int32} {M : mM} (hI : Inv M) (hD : InvD M) (hR : RY M.1) (hi : 0 ≤ i.toInt ∧ i.toInt + 6 ≤ (L : Int)) (hend : ∀ M' : mM, Inv M' → InvD M' → RY M'.1 → WL p l e s m below meth c b A G cy ad ce sl Z 1731 [(3, vI i), (0, vR (94, 0, 0)), (1, vR (11, 0, 0)), (2, vR (12, 0, 0))] [] M') : WL p l e s m below meth c b A G cy ad ce sl Z 1345 [(3, vI i), (0, vR (94, 0, 0)), (1, vR (11, 0, 0)), (2, vR (12, 0, 0))] [] M := by
  refine wl_aload_n X dL_law_1345 rfl 2 rfl ?_
  refine wl_arg X 1 hi (by decide) (v := 1) (by decide) (ki := 1) (by decide) 1 0 rfl rfl dL_law_1346 dL_law_1347 dL_law_1348 dL_law_1349 dL_law_1350 ?_
  refine wl_arg X 2 hi (by decide) (v := 2) (by decide) (ki := 2) (by decide) 1 0 rfl rfl dL_law_1351 dL_law_1352 dL_law_1353 dL_law_1354 dL_law_1355 ?_
  refine wl_arg X 3 hi (by decide) (v := 3) (by decide) (ki := 3) (by decide) 1 0 rfl rfl dL_law_1356 dL_law_1357 dL_law_1358 dL_law_1359 dL_law_1360 ?_
  refine wl_arg X 4 hi (by decide) (v := 4) (by decide) (ki := 4) (by decide) 1 0 rfl rfl dL_law_1361 dL_law_1362 dL_law_1363 dL_law_1364 dL_law_1365 ?_
  refine wl_callC X (as := [vI (xs (i.toInt.toNat + 1)), vI (xs (i.toInt.toNat + 2)), vI (xs (i.toInt.toNat + 3)), vI (xs (i.toInt.toNat + 4))]) (rest := []) (c_X11_posts l G cy ad 0 (xs (i.toInt.toNat + 1)) (xs (i.toInt.toNat + 2)) (xs (i.toInt.toNat + 3)) (xs (i.toInt.toNat + 4)) M hI) kV_X11_posts pnn_0 (Nat.le_of_ble_eq_true rfl) m_1155 rfl rfl rfl (by decide) (Nat.le_of_ble_eq_true rfl) (Nat.le_of_ble_eq_true rfl) dL_law_1366 (fun r1_ M2_ q3_ => ?_)
  obtain ⟨hI1_, hF1_, -, hs1_⟩ := q3_
  have e1_ : mgC M2_ M = M2_ := mgC_self hF1_ SC_X11_posts
  rw [e1_]
  have hD1_ : InvD M2_ := e1_ ▸ mgC_D (M' := M2_) hD
  refine wl_pop X dL_law_1369 ?_
  refine wl_aload_n X dL_law_1370 rfl 3 rfl ?_
  refine wl_arg X 1 hi (by decide) (v := 1) (by decide) (ki := 1) (by decide) 1 0 rfl rfl dL_law_1371 dL_law_1372 dL_law_1373 dL_law_1374 dL_law_1375 ?_
  refine wl_arg X 2 hi (by decide) (v := 2) (by decide) (ki := 2) (by decide) 1 0 rfl rfl dL_law_1376 dL_law_1377 dL_law_1378 dL_law_1379 dL_law_1380 ?_
  refine wl_arg X 3 hi (by decide) (v := 3) (by decide) (ki := 3) (by decide) 1 0 rfl rfl dL_law_1381 dL_law_1382 dL_law_1383 dL_law_1384 dL_law_1385 ?_
  refine wl_arg X 4 hi (by decide) (v := 4) (by decide) (ki := 4) (by decide) 1 0 rfl rfl dL_law_1386 dL_law_1387 dL_law_1388 dL_law_1389 dL_law_1390 ?_
  refine wl_callD X (as := [vI (xs (i.toInt.toNat + 1)), vI (xs (i.toInt.toNat + 2)), vI (xs (i.toInt.toNat + 3)), vI (xs (i.toInt.toNat + 4))]) (rest := []) (c_X12_posts l G cy ad 0 (xs (i.toInt.toNat + 1)) (xs (i.toInt.toNat + 2)) (xs (i.toInt.toNat + 3)) (xs (i.toInt.toNat + 4)) M2_ hD1_) kV_X12_posts pnn_17 (Nat.le_of_ble_eq_true rfl) m_1791 rfl rfl rfl (by decide) (Nat.le_of_ble_eq_true rfl) (Nat.le_of_ble_eq_true rfl) dL_law_1391 (fun r4_ M5_ q6_ => ?_)
  obtain ⟨hI2_, hF2_, -, hs2_⟩ := q6_
  have e2_ : (mgD M5_ M2_).1 = M5_.1 := mgD_self hF2_ SD_X12_posts
  have hI9_ : Inv (mgD M5_ M2_) := mgD_I hI1_
  have hD9_ : InvD (mgD M5_ M2_) := mgD_D hI2_
  have st_ := sy_29 hR hD hD1_ hI2_ hF1_ hs1_ hF2_ hs2_
  refine wl_pop X dL_law_1394 ?_
  refine wl_goto X (tgt := 1731) dL_law_1395 (by decide) ?_
  exact hend _ hI9_ hD9_ (by rw [e2_]; exact st_.1)
set_option maxHeartbeats 4000000 in
set_option maxRecDepth 100000 in
theorem law_case_30 {p : Program} {l : Launch} {e : Env} {s : State} {m : MethodId} {below : List Frame} {meth : Method} {c : Code} {b L : Nat} {xs : Nat → Int32} {A : Nat → Prop} {G : va_G} {cy : Nat → ClassId} {ad : rf → Nat} {ce sl : Nat} {Z : State → Prop} (X : LX p s m c b L xs A G cy ad ce sl) {i : Int32} {M : mM} (hI : Inv M) (hD : InvD M) (hR : RY M.1) (hi : 0 ≤ i.toInt ∧ i.toInt + 6 ≤ (L : Int)) (hend : ∀ M' : mM, Inv M' → InvD M' → RY M'.1 → WL p l e s m below meth c b A G cy ad ce sl Z 1731 [(3, vI i), (0, vR (94, 0, 0)), (1, vR (11, 0, 0)), (2, vR (12, 0, 0))] [] M') : WL p l e s m below meth c b A G cy ad ce sl Z 1398 [(3, vI i), (0, vR (94, 0, 0)), (1, vR (11, 0, 0)), (2, vR (12, 0, 0))] [] M := by
  refine wl_aload_n X dL_law_1398 rfl 2 rfl ?_
  refine wl_arg X 1 hi (by decide) (v := 1) (by decide) (ki := 1) (by decide) 1 0 rfl rfl dL_law_1399 dL_law_1400 dL_law_1401 dL_law_1402 dL_law_1403 ?_
  refine wl_arg X 2 hi (by decide) (v := 2) (by decide) (ki := 2) (by decide) 1 0 rfl rfl dL_law_1404 dL_law_1405 dL_law_1406 dL_law_1407 dL_law_1408 ?_
  refine wl_arg X 3 hi (by decide) (v := 3) (by decide) (ki := 3) (by decide) 1 0 rfl rfl dL_law_1409 dL_law_1410 dL_law_1411 dL_law_1412 dL_law_1413 ?_
  refine wl_callC X (as := [vI (xs (i.toInt.toNat + 1)), vI (xs (i.toInt.toNat + 2)), vI (xs (i.toInt.toNat + 3))]) (rest := []) (c_X11_voice l G cy ad 0 (xs (i.toInt.toNat + 1)) (xs (i.toInt.toNat + 2)) (xs (i.toInt.toNat + 3)) M hI) kV_X11_voice pnn_0 (Nat.le_of_ble_eq_true rfl) m_1176 rfl rfl rfl (by decide) (Nat.le_of_ble_eq_true rfl) (Nat.le_of_ble_eq_true rfl) dL_law_1414 (fun r1_ M2_ q3_ => ?_)
  obtain ⟨hI1_, hF1_, -, hs1_⟩ := q3_
  have e1_ : mgC M2_ M = M2_ := mgC_self hF1_ SC_X11_voice
  rw [e1_]
  have hD1_ : InvD M2_ := e1_ ▸ mgC_D (M' := M2_) hD
  refine wl_pop X dL_law_1417 ?_
  refine wl_aload_n X dL_law_1418 rfl 3 rfl ?_
  refine wl_arg X 1 hi (by decide) (v := 1) (by decide) (ki := 1) (by decide) 1 0 rfl rfl dL_law_1419 dL_law_1420 dL_law_1421 dL_law_1422 dL_law_1423 ?_
  refine wl_arg X 2 hi (by decide) (v := 2) (by decide) (ki := 2) (by decide) 1 0 rfl rfl dL_law_1424 dL_law_1425 dL_law_1426 dL_law_1427 dL_law_1428 ?_
  refine wl_arg X 3 hi (by decide) (v := 3) (by decide) (ki := 3) (by decide) 1 0 rfl rfl dL_law_1429 dL_law_1430 dL_law_1431 dL_law_1432 dL_law_1433 ?_
  refine wl_callD X (as := [vI (xs (i.toInt.toNat + 1)), vI (xs (i.toInt.toNat + 2)), vI (xs (i.toInt.toNat + 3))]) (rest := []) (c_X12_voice l G cy ad 0 (xs (i.toInt.toNat + 1)) (xs (i.toInt.toNat + 2)) (xs (i.toInt.toNat + 3)) M2_ hD1_) kV_X12_voice pnn_17 (Nat.le_of_ble_eq_true rfl) m_1799 rfl rfl rfl (by decide) (Nat.le_of_ble_eq_true rfl) (Nat.le_of_ble_eq_true rfl) dL_law_1434 (fun r4_ M5_ q6_ => ?_)
  obtain ⟨hI2_, hF2_, -, hs2_⟩ := q6_
  have e2_ : (mgD M5_ M2_).1 = M5_.1 := mgD_self hF2_ SD_X12_voice
  have hI9_ : Inv (mgD M5_ M2_) := mgD_I hI1_
  have hD9_ : InvD (mgD M5_ M2_) := mgD_D hI2_
  have st_ := sy_30 hR hD hD1_ hI2_ hF1_ hs1_ hF2_ hs2_
  refine wl_pop X dL_law_1437 ?_
  refine wl_goto X (tgt := 1731) dL_law_1438 (by decide) ?_
  exact hend _ hI9_ hD9_ (by rw [e2_]; exact st_.1)
set_option maxHeartbeats 4000000 in
set_option maxRecDepth 100000 in
theorem law_case_31 {p : Program} {l : Launch} {e : Env} {s : State} {m : MethodId} {below : List Frame} {meth : Method} {c : Code} {b L : Nat} {xs : Nat → Int32} {A : Nat → Prop} {G : va_G} {cy : Nat → ClassId} {ad : rf → Nat} {ce sl : Nat} {Z : State → Prop} (X : LX p s m c b L xs A G cy ad ce sl) {i : Int32} {M : mM} (hI : Inv M) (hD : InvD M) (hR : RY M.1) (hi : 0 ≤ i.toInt ∧ i.toInt + 6 ≤ (L : Int)) (hend : ∀ M' : mM, Inv M' → InvD M' → RY M'.1 → WL p l e s m below meth c b A G cy ad ce sl Z 1731 [(3, vI i), (0, vR (94, 0, 0)), (1, vR (11, 0, 0)), (2, vR (12, 0, 0))] [] M') : WL p l e s m below meth c b A G cy ad ce sl Z 1441 [(3, vI i), (0, vR (94, 0, 0)), (1, vR (11, 0, 0)), (2, vR (12, 0, 0))] [] M := by
  refine wl_aload_n X dL_law_1441 rfl 2 rfl ?_
  refine wl_arg X 1 hi (by decide) (v := 1) (by decide) (ki := 1) (by decide) 1 0 rfl rfl dL_law_1442 dL_law_1443 dL_law_1444 dL_law_1445 dL_law_1446 ?_
  refine wl_callC X (as := [vI (xs (i.toInt.toNat + 1))]) (rest := []) (c_X11_trace l G cy ad 0 (xs (i.toInt.toNat + 1)) M hI) kV_X11_trace pnn_0 (Nat.le_of_ble_eq_true rfl) m_1210 rfl rfl rfl (by decide) (Nat.le_of_ble_eq_true rfl) (Nat.le_of_ble_eq_true rfl) dL_law_1447 (fun r1_ M2_ q3_ => ?_)
  obtain ⟨hI1_, hF1_, -, hs1_⟩ := q3_
  have e1_ : mgC M2_ M = M2_ := mgC_self hF1_ SC_X11_trace
  rw [e1_]
  have hD1_ : InvD M2_ := e1_ ▸ mgC_D (M' := M2_) hD
  refine wl_pop X dL_law_1450 ?_
  refine wl_aload_n X dL_law_1451 rfl 3 rfl ?_
  refine wl_arg X 1 hi (by decide) (v := 1) (by decide) (ki := 1) (by decide) 1 0 rfl rfl dL_law_1452 dL_law_1453 dL_law_1454 dL_law_1455 dL_law_1456 ?_
  refine wl_callD X (as := [vI (xs (i.toInt.toNat + 1))]) (rest := []) (c_X12_trace l G cy ad 0 (xs (i.toInt.toNat + 1)) M2_ hD1_) kV_X12_trace pnn_17 (Nat.le_of_ble_eq_true rfl) m_1823 rfl rfl rfl (by decide) (Nat.le_of_ble_eq_true rfl) (Nat.le_of_ble_eq_true rfl) dL_law_1457 (fun r4_ M5_ q6_ => ?_)
  obtain ⟨hI2_, hF2_, -, hs2_⟩ := q6_
  have e2_ : (mgD M5_ M2_).1 = M5_.1 := mgD_self hF2_ SD_X12_trace
  have hI9_ : Inv (mgD M5_ M2_) := mgD_I hI1_
  have hD9_ : InvD (mgD M5_ M2_) := mgD_D hI2_
  have st_ := sy_31 hR hD hD1_ hI2_ hF1_ hs1_ hF2_ hs2_
  refine wl_pop X dL_law_1460 ?_
  refine wl_goto X (tgt := 1731) dL_law_1461 (by decide) ?_
  exact hend _ hI9_ hD9_ (by rw [e2_]; exact st_.1)
set_option maxHeartbeats 4000000 in
set_option maxRecDepth 100000 in
theorem law_case_32 {p : Program} {l : Launch} {e : Env} {s : State} {m : MethodId} {below : List Frame} {meth : Method} {c : Code} {b L : Nat} {xs : Nat → Int32} {A : Nat → Prop} {G : va_G} {cy : Nat → ClassId} {ad : rf → Nat} {ce sl : Nat} {Z : State → Prop} (X : LX p s m c b L xs A G cy ad ce sl) {i : Int32} {M : mM} (hI : Inv M) (hD : InvD M) (hR : RY M.1) (hi : 0 ≤ i.toInt ∧ i.toInt + 6 ≤ (L : Int)) (hend : ∀ M' : mM, Inv M' → InvD M' → RY M'.1 → WL p l e s m below meth c b A G cy ad ce sl Z 1731 [(3, vI i), (0, vR (94, 0, 0)), (1, vR (11, 0, 0)), (2, vR (12, 0, 0))] [] M') : WL p l e s m below meth c b A G cy ad ce sl Z 1464 [(3, vI i), (0, vR (94, 0, 0)), (1, vR (11, 0, 0)), (2, vR (12, 0, 0))] [] M := by
  refine wl_aload_n X dL_law_1464 rfl 2 rfl ?_
  refine wl_arg X 1 hi (by decide) (v := 1) (by decide) (ki := 1) (by decide) 1 0 rfl rfl dL_law_1465 dL_law_1466 dL_law_1467 dL_law_1468 dL_law_1469 ?_
  refine wl_arg X 2 hi (by decide) (v := 2) (by decide) (ki := 2) (by decide) 1 0 rfl rfl dL_law_1470 dL_law_1471 dL_law_1472 dL_law_1473 dL_law_1474 ?_
  refine wl_arg X 3 hi (by decide) (v := 3) (by decide) (ki := 3) (by decide) 1 0 rfl rfl dL_law_1475 dL_law_1476 dL_law_1477 dL_law_1478 dL_law_1479 ?_
  refine wl_callC X (as := [vI (xs (i.toInt.toNat + 1)), vI (xs (i.toInt.toNat + 2)), vI (xs (i.toInt.toNat + 3))]) (rest := []) (c_X11_sheet l G cy ad 0 (xs (i.toInt.toNat + 1)) (xs (i.toInt.toNat + 2)) (xs (i.toInt.toNat + 3)) M hI) kV_X11_sheet pnn_0 (Nat.le_of_ble_eq_true rfl) m_1218 rfl rfl rfl (by decide) (Nat.le_of_ble_eq_true rfl) (Nat.le_of_ble_eq_true rfl) dL_law_1480 (fun r1_ M2_ q3_ => ?_)
  obtain ⟨hI1_, hF1_, -, hs1_⟩ := q3_
  have e1_ : mgC M2_ M = M2_ := mgC_self hF1_ SC_X11_sheet
  rw [e1_]
  have hD1_ : InvD M2_ := e1_ ▸ mgC_D (M' := M2_) hD
  refine wl_pop X dL_law_1483 ?_
  refine wl_aload_n X dL_law_1484 rfl 3 rfl ?_
  refine wl_arg X 1 hi (by decide) (v := 1) (by decide) (ki := 1) (by decide) 1 0 rfl rfl dL_law_1485 dL_law_1486 dL_law_1487 dL_law_1488 dL_law_1489 ?_
  refine wl_arg X 2 hi (by decide) (v := 2) (by decide) (ki := 2) (by decide) 1 0 rfl rfl dL_law_1490 dL_law_1491 dL_law_1492 dL_law_1493 dL_law_1494 ?_
  refine wl_arg X 3 hi (by decide) (v := 3) (by decide) (ki := 3) (by decide) 1 0 rfl rfl dL_law_1495 dL_law_1496 dL_law_1497 dL_law_1498 dL_law_1499 ?_
  refine wl_callD X (as := [vI (xs (i.toInt.toNat + 1)), vI (xs (i.toInt.toNat + 2)), vI (xs (i.toInt.toNat + 3))]) (rest := []) (c_X12_sheet l G cy ad 0 (xs (i.toInt.toNat + 1)) (xs (i.toInt.toNat + 2)) (xs (i.toInt.toNat + 3)) M2_ hD1_) kV_X12_sheet pnn_17 (Nat.le_of_ble_eq_true rfl) m_1827 rfl rfl rfl (by decide) (Nat.le_of_ble_eq_true rfl) (Nat.le_of_ble_eq_true rfl) dL_law_1500 (fun r4_ M5_ q6_ => ?_)
  obtain ⟨hI2_, hF2_, -, hs2_⟩ := q6_
  have e2_ : (mgD M5_ M2_).1 = M5_.1 := mgD_self hF2_ SD_X12_sheet
  have hI9_ : Inv (mgD M5_ M2_) := mgD_I hI1_
  have hD9_ : InvD (mgD M5_ M2_) := mgD_D hI2_
  have st_ := sy_32 hR hD hD1_ hI2_ hF1_ hs1_ hF2_ hs2_
  refine wl_pop X dL_law_1503 ?_
  refine wl_goto X (tgt := 1731) dL_law_1504 (by decide) ?_
  exact hend _ hI9_ hD9_ (by rw [e2_]; exact st_.1)
set_option maxHeartbeats 4000000 in
set_option maxRecDepth 100000 in
theorem law_case_33 {p : Program} {l : Launch} {e : Env} {s : State} {m : MethodId} {below : List Frame} {meth : Method} {c : Code} {b L : Nat} {xs : Nat → Int32} {A : Nat → Prop} {G : va_G} {cy : Nat → ClassId} {ad : rf → Nat} {ce sl : Nat} {Z : State → Prop} (X : LX p s m c b L xs A G cy ad ce sl) {i : Int32} {M : mM} (hI : Inv M) (hD : InvD M) (hR : RY M.1) (hi : 0 ≤ i.toInt ∧ i.toInt + 6 ≤ (L : Int)) (hend : ∀ M' : mM, Inv M' → InvD M' → RY M'.1 → WL p l e s m below meth c b A G cy ad ce sl Z 1731 [(3, vI i), (0, vR (94, 0, 0)), (1, vR (11, 0, 0)), (2, vR (12, 0, 0))] [] M') : WL p l e s m below meth c b A G cy ad ce sl Z 1507 [(3, vI i), (0, vR (94, 0, 0)), (1, vR (11, 0, 0)), (2, vR (12, 0, 0))] [] M := by
  refine wl_aload_n X dL_law_1507 rfl 2 rfl ?_
  refine wl_arg X 1 hi (by decide) (v := 1) (by decide) (ki := 1) (by decide) 1 0 rfl rfl dL_law_1508 dL_law_1509 dL_law_1510 dL_law_1511 dL_law_1512 ?_
  refine wl_arg X 2 hi (by decide) (v := 2) (by decide) (ki := 2) (by decide) 1 0 rfl rfl dL_law_1513 dL_law_1514 dL_law_1515 dL_law_1516 dL_law_1517 ?_
  refine wl_arg X 3 hi (by decide) (v := 3) (by decide) (ki := 3) (by decide) 1 0 rfl rfl dL_law_1518 dL_law_1519 dL_law_1520 dL_law_1521 dL_law_1522 ?_
  refine wl_callC X (as := [vI (xs (i.toInt.toNat + 1)), vI (xs (i.toInt.toNat + 2)), vI (xs (i.toInt.toNat + 3))]) (rest := []) (c_X11_put l G cy ad 0 (xs (i.toInt.toNat + 1)) (xs (i.toInt.toNat + 2)) (xs (i.toInt.toNat + 3)) M hI) kV_X11_put pnn_0 (Nat.le_of_ble_eq_true rfl) m_1232 rfl rfl rfl (by decide) (Nat.le_of_ble_eq_true rfl) (Nat.le_of_ble_eq_true rfl) dL_law_1523 (fun r1_ M2_ q3_ => ?_)
  obtain ⟨hI1_, hF1_, -, hs1_⟩ := q3_
  have e1_ : mgC M2_ M = M2_ := mgC_self hF1_ SC_X11_put
  rw [e1_]
  have hD1_ : InvD M2_ := e1_ ▸ mgC_D (M' := M2_) hD
  refine wl_pop X dL_law_1526 ?_
  refine wl_aload_n X dL_law_1527 rfl 3 rfl ?_
  refine wl_arg X 1 hi (by decide) (v := 1) (by decide) (ki := 1) (by decide) 1 0 rfl rfl dL_law_1528 dL_law_1529 dL_law_1530 dL_law_1531 dL_law_1532 ?_
  refine wl_arg X 2 hi (by decide) (v := 2) (by decide) (ki := 2) (by decide) 1 0 rfl rfl dL_law_1533 dL_law_1534 dL_law_1535 dL_law_1536 dL_law_1537 ?_
  refine wl_arg X 3 hi (by decide) (v := 3) (by decide) (ki := 3) (by decide) 1 0 rfl rfl dL_law_1538 dL_law_1539 dL_law_1540 dL_law_1541 dL_law_1542 ?_
  refine wl_callD X (as := [vI (xs (i.toInt.toNat + 1)), vI (xs (i.toInt.toNat + 2)), vI (xs (i.toInt.toNat + 3))]) (rest := []) (c_X12_put l G cy ad 0 (xs (i.toInt.toNat + 1)) (xs (i.toInt.toNat + 2)) (xs (i.toInt.toNat + 3)) M2_ hD1_) kV_X12_put pnn_17 (Nat.le_of_ble_eq_true rfl) m_1831 rfl rfl rfl (by decide) (Nat.le_of_ble_eq_true rfl) (Nat.le_of_ble_eq_true rfl) dL_law_1543 (fun r4_ M5_ q6_ => ?_)
  obtain ⟨hI2_, hF2_, -, hs2_⟩ := q6_
  have e2_ : (mgD M5_ M2_).1 = M5_.1 := mgD_self hF2_ SD_X12_put
  have hI9_ : Inv (mgD M5_ M2_) := mgD_I hI1_
  have hD9_ : InvD (mgD M5_ M2_) := mgD_D hI2_
  have st_ := sy_33 hR hD hD1_ hI2_ hF1_ hs1_ hF2_ hs2_
  refine wl_pop X dL_law_1546 ?_
  refine wl_goto X (tgt := 1731) dL_law_1547 (by decide) ?_
  exact hend _ hI9_ hD9_ (by rw [e2_]; exact st_.1)
set_option maxHeartbeats 4000000 in
set_option maxRecDepth 100000 in
theorem law_case_34 {p : Program} {l : Launch} {e : Env} {s : State} {m : MethodId} {below : List Frame} {meth : Method} {c : Code} {b L : Nat} {xs : Nat → Int32} {A : Nat → Prop} {G : va_G} {cy : Nat → ClassId} {ad : rf → Nat} {ce sl : Nat} {Z : State → Prop} (X : LX p s m c b L xs A G cy ad ce sl) {i : Int32} {M : mM} (hI : Inv M) (hD : InvD M) (hR : RY M.1) (hi : 0 ≤ i.toInt ∧ i.toInt + 6 ≤ (L : Int)) (hend : ∀ M' : mM, Inv M' → InvD M' → RY M'.1 → WL p l e s m below meth c b A G cy ad ce sl Z 1731 [(3, vI i), (0, vR (94, 0, 0)), (1, vR (11, 0, 0)), (2, vR (12, 0, 0))] [] M') : WL p l e s m below meth c b A G cy ad ce sl Z 1550 [(3, vI i), (0, vR (94, 0, 0)), (1, vR (11, 0, 0)), (2, vR (12, 0, 0))] [] M := by
  refine wl_aload_n X dL_law_1550 rfl 2 rfl ?_
  refine wl_arg X 1 hi (by decide) (v := 1) (by decide) (ki := 1) (by decide) 1 0 rfl rfl dL_law_1551 dL_law_1552 dL_law_1553 dL_law_1554 dL_law_1555 ?_
  refine wl_arg X 2 hi (by decide) (v := 2) (by decide) (ki := 2) (by decide) 1 0 rfl rfl dL_law_1556 dL_law_1557 dL_law_1558 dL_law_1559 dL_law_1560 ?_
  refine wl_arg X 3 hi (by decide) (v := 3) (by decide) (ki := 3) (by decide) 1 0 rfl rfl dL_law_1561 dL_law_1562 dL_law_1563 dL_law_1564 dL_law_1565 ?_
  refine wl_arg X 4 hi (by decide) (v := 4) (by decide) (ki := 4) (by decide) 1 0 rfl rfl dL_law_1566 dL_law_1567 dL_law_1568 dL_law_1569 dL_law_1570 ?_
  refine wl_arg X 5 hi (by decide) (v := 5) (by decide) (ki := 5) (by decide) 1 0 rfl rfl dL_law_1571 dL_law_1572 dL_law_1573 dL_law_1574 dL_law_1575 ?_
  refine wl_callC X (as := [vI (xs (i.toInt.toNat + 1)), vI (xs (i.toInt.toNat + 2)), vI (xs (i.toInt.toNat + 3)), vI (xs (i.toInt.toNat + 4)), vI (xs (i.toInt.toNat + 5))]) (rest := []) (c_X11_move l G cy ad 0 (xs (i.toInt.toNat + 1)) (xs (i.toInt.toNat + 2)) (xs (i.toInt.toNat + 3)) (xs (i.toInt.toNat + 4)) (xs (i.toInt.toNat + 5)) M hI) kV_X11_move pnn_0 (Nat.le_of_ble_eq_true rfl) m_1241 rfl rfl rfl (by decide) (Nat.le_of_ble_eq_true rfl) (Nat.le_of_ble_eq_true rfl) dL_law_1576 (fun r1_ M2_ q3_ => ?_)
  obtain ⟨hI1_, hF1_, -, hs1_⟩ := q3_
  have e1_ : mgC M2_ M = M2_ := mgC_self hF1_ SC_X11_move
  rw [e1_]
  have hD1_ : InvD M2_ := e1_ ▸ mgC_D (M' := M2_) hD
  refine wl_pop X dL_law_1579 ?_
  refine wl_aload_n X dL_law_1580 rfl 3 rfl ?_
  refine wl_arg X 1 hi (by decide) (v := 1) (by decide) (ki := 1) (by decide) 1 0 rfl rfl dL_law_1581 dL_law_1582 dL_law_1583 dL_law_1584 dL_law_1585 ?_
  refine wl_arg X 2 hi (by decide) (v := 2) (by decide) (ki := 2) (by decide) 1 0 rfl rfl dL_law_1586 dL_law_1587 dL_law_1588 dL_law_1589 dL_law_1590 ?_
  refine wl_arg X 3 hi (by decide) (v := 3) (by decide) (ki := 3) (by decide) 1 0 rfl rfl dL_law_1591 dL_law_1592 dL_law_1593 dL_law_1594 dL_law_1595 ?_
  refine wl_arg X 4 hi (by decide) (v := 4) (by decide) (ki := 4) (by decide) 1 0 rfl rfl dL_law_1596 dL_law_1597 dL_law_1598 dL_law_1599 dL_law_1600 ?_
  refine wl_arg X 5 hi (by decide) (v := 5) (by decide) (ki := 5) (by decide) 1 0 rfl rfl dL_law_1601 dL_law_1602 dL_law_1603 dL_law_1604 dL_law_1605 ?_
  refine wl_callD X (as := [vI (xs (i.toInt.toNat + 1)), vI (xs (i.toInt.toNat + 2)), vI (xs (i.toInt.toNat + 3)), vI (xs (i.toInt.toNat + 4)), vI (xs (i.toInt.toNat + 5))]) (rest := []) (c_X12_move l G cy ad 0 (xs (i.toInt.toNat + 1)) (xs (i.toInt.toNat + 2)) (xs (i.toInt.toNat + 3)) (xs (i.toInt.toNat + 4)) (xs (i.toInt.toNat + 5)) M2_ hD1_) kV_X12_move pnn_17 (Nat.le_of_ble_eq_true rfl) m_1835 rfl rfl rfl (by decide) (Nat.le_of_ble_eq_true rfl) (Nat.le_of_ble_eq_true rfl) dL_law_1606 (fun r4_ M5_ q6_ => ?_)
  obtain ⟨hI2_, hF2_, -, hs2_⟩ := q6_
  have e2_ : (mgD M5_ M2_).1 = M5_.1 := mgD_self hF2_ SD_X12_move
  have hI9_ : Inv (mgD M5_ M2_) := mgD_I hI1_
  have hD9_ : InvD (mgD M5_ M2_) := mgD_D hI2_
  have st_ := sy_34 hR hD hD1_ hI2_ hF1_ hs1_ hF2_ hs2_
  refine wl_pop X dL_law_1609 ?_
  refine wl_goto X (tgt := 1731) dL_law_1610 (by decide) ?_
  exact hend _ hI9_ hD9_ (by rw [e2_]; exact st_.1)
set_option maxHeartbeats 4000000 in
set_option maxRecDepth 100000 in
theorem law_case_35 {p : Program} {l : Launch} {e : Env} {s : State} {m : MethodId} {below : List Frame} {meth : Method} {c : Code} {b L : Nat} {xs : Nat → Int32} {A : Nat → Prop} {G : va_G} {cy : Nat → ClassId} {ad : rf → Nat} {ce sl : Nat} {Z : State → Prop} (X : LX p s m c b L xs A G cy ad ce sl) {i : Int32} {M : mM} (hI : Inv M) (hD : InvD M) (hR : RY M.1) (hi : 0 ≤ i.toInt ∧ i.toInt + 6 ≤ (L : Int)) (hend : ∀ M' : mM, Inv M' → InvD M' → RY M'.1 → WL p l e s m below meth c b A G cy ad ce sl Z 1731 [(3, vI i), (0, vR (94, 0, 0)), (1, vR (11, 0, 0)), (2, vR (12, 0, 0))] [] M') : WL p l e s m below meth c b A G cy ad ce sl Z 1613 [(3, vI i), (0, vR (94, 0, 0)), (1, vR (11, 0, 0)), (2, vR (12, 0, 0))] [] M := by
  refine wl_aload_n X dL_law_1613 rfl 2 rfl ?_
  refine wl_callC X (as := []) (rest := []) (c_X11_image l G cy ad 0 M hI) kV_X11_image pnn_0 (Nat.le_of_ble_eq_true rfl) m_1250 rfl rfl rfl (by decide) (Nat.le_of_ble_eq_true rfl) (Nat.le_of_ble_eq_true rfl) dL_law_1614 (fun r1_ M2_ q3_ => ?_)
  obtain ⟨hI1_, hF1_, -, hs1_⟩ := q3_
  have e1_ : mgC M2_ M = M2_ := mgC_self hF1_ SC_X11_image
  rw [e1_]
  have hD1_ : InvD M2_ := e1_ ▸ mgC_D (M' := M2_) hD
  refine wl_pop X dL_law_1617 ?_
  refine wl_aload_n X dL_law_1618 rfl 3 rfl ?_
  refine wl_callD X (as := []) (rest := []) (c_X12_image l G cy ad 0 M2_ hD1_) kV_X12_image pnn_17 (Nat.le_of_ble_eq_true rfl) m_1839 rfl rfl rfl (by decide) (Nat.le_of_ble_eq_true rfl) (Nat.le_of_ble_eq_true rfl) dL_law_1619 (fun r4_ M5_ q6_ => ?_)
  obtain ⟨hI2_, hF2_, -, hs2_⟩ := q6_
  have e2_ : (mgD M5_ M2_).1 = M5_.1 := mgD_self hF2_ SD_X12_image
  have hI9_ : Inv (mgD M5_ M2_) := mgD_I hI1_
  have hD9_ : InvD (mgD M5_ M2_) := mgD_D hI2_
  have st_ := sy_35 hR hD hD1_ hI2_ hF1_ hs1_ hF2_ hs2_
  refine wl_pop X dL_law_1622 ?_
  refine wl_goto X (tgt := 1731) dL_law_1623 (by decide) ?_
  exact hend _ hI9_ hD9_ (by rw [e2_]; exact st_.1)
set_option maxHeartbeats 4000000 in
set_option maxRecDepth 100000 in
theorem law_case_36 {p : Program} {l : Launch} {e : Env} {s : State} {m : MethodId} {below : List Frame} {meth : Method} {c : Code} {b L : Nat} {xs : Nat → Int32} {A : Nat → Prop} {G : va_G} {cy : Nat → ClassId} {ad : rf → Nat} {ce sl : Nat} {Z : State → Prop} (X : LX p s m c b L xs A G cy ad ce sl) {i : Int32} {M : mM} (hI : Inv M) (hD : InvD M) (hR : RY M.1) (hi : 0 ≤ i.toInt ∧ i.toInt + 6 ≤ (L : Int)) (hend : ∀ M' : mM, Inv M' → InvD M' → RY M'.1 → WL p l e s m below meth c b A G cy ad ce sl Z 1731 [(3, vI i), (0, vR (94, 0, 0)), (1, vR (11, 0, 0)), (2, vR (12, 0, 0))] [] M') : WL p l e s m below meth c b A G cy ad ce sl Z 1626 [(3, vI i), (0, vR (94, 0, 0)), (1, vR (11, 0, 0)), (2, vR (12, 0, 0))] [] M := by
  refine wl_aload_n X dL_law_1626 rfl 2 rfl ?_
  refine wl_callC X (as := []) (rest := []) (c_X11_restore l G cy ad 0 M hI) kV_X11_restore pnn_0 (Nat.le_of_ble_eq_true rfl) m_1280 rfl rfl rfl (by decide) (Nat.le_of_ble_eq_true rfl) (Nat.le_of_ble_eq_true rfl) dL_law_1627 (fun r1_ M2_ q3_ => ?_)
  obtain ⟨hI1_, hF1_, -, hs1_⟩ := q3_
  have e1_ : mgC M2_ M = M2_ := mgC_self hF1_ SC_X11_restore
  rw [e1_]
  have hD1_ : InvD M2_ := e1_ ▸ mgC_D (M' := M2_) hD
  refine wl_pop X dL_law_1630 ?_
  refine wl_aload_n X dL_law_1631 rfl 3 rfl ?_
  refine wl_callD X (as := []) (rest := []) (c_X12_restore l G cy ad 0 M2_ hD1_) kV_X12_restore pnn_17 (Nat.le_of_ble_eq_true rfl) m_1846 rfl rfl rfl (by decide) (Nat.le_of_ble_eq_true rfl) (Nat.le_of_ble_eq_true rfl) dL_law_1632 (fun r4_ M5_ q6_ => ?_)
  obtain ⟨hI2_, hF2_, -, hs2_⟩ := q6_
  have e2_ : (mgD M5_ M2_).1 = M5_.1 := mgD_self hF2_ SD_X12_restore
  have hI9_ : Inv (mgD M5_ M2_) := mgD_I hI1_
  have hD9_ : InvD (mgD M5_ M2_) := mgD_D hI2_
  have st_ := sy_36 hR hD hD1_ hI2_ hF1_ hs1_ hF2_ hs2_
  refine wl_pop X dL_law_1635 ?_
  refine wl_goto X (tgt := 1731) dL_law_1636 (by decide) ?_
  exact hend _ hI9_ hD9_ (by rw [e2_]; exact st_.1)
set_option maxHeartbeats 4000000 in
set_option maxRecDepth 100000 in
theorem law_case_37 {p : Program} {l : Launch} {e : Env} {s : State} {m : MethodId} {below : List Frame} {meth : Method} {c : Code} {b L : Nat} {xs : Nat → Int32} {A : Nat → Prop} {G : va_G} {cy : Nat → ClassId} {ad : rf → Nat} {ce sl : Nat} {Z : State → Prop} (X : LX p s m c b L xs A G cy ad ce sl) {i : Int32} {M : mM} (hI : Inv M) (hD : InvD M) (hR : RY M.1) (hi : 0 ≤ i.toInt ∧ i.toInt + 6 ≤ (L : Int)) (hend : ∀ M' : mM, Inv M' → InvD M' → RY M'.1 → WL p l e s m below meth c b A G cy ad ce sl Z 1731 [(3, vI i), (0, vR (94, 0, 0)), (1, vR (11, 0, 0)), (2, vR (12, 0, 0))] [] M') : WL p l e s m below meth c b A G cy ad ce sl Z 1639 [(3, vI i), (0, vR (94, 0, 0)), (1, vR (11, 0, 0)), (2, vR (12, 0, 0))] [] M := by
  refine wl_aload_n X dL_law_1639 rfl 2 rfl ?_
  refine wl_arg X 1 hi (by decide) (v := 1) (by decide) (ki := 1) (by decide) 1 0 rfl rfl dL_law_1640 dL_law_1641 dL_law_1642 dL_law_1643 dL_law_1644 ?_
  refine wl_callC X (as := [vI (xs (i.toInt.toNat + 1))]) (rest := []) (c_X11_tell l G cy ad 0 (xs (i.toInt.toNat + 1)) M hI) kV_X11_tell pnn_0 (Nat.le_of_ble_eq_true rfl) m_1284 rfl rfl rfl (by decide) (Nat.le_of_ble_eq_true rfl) (Nat.le_of_ble_eq_true rfl) dL_law_1645 (fun r1_ M2_ q3_ => ?_)
  obtain ⟨hI1_, hF1_, -, hs1_⟩ := q3_
  have e1_ : mgC M2_ M = M2_ := mgC_self hF1_ SC_X11_tell
  rw [e1_]
  have hD1_ : InvD M2_ := e1_ ▸ mgC_D (M' := M2_) hD
  refine wl_pop X dL_law_1648 ?_
  refine wl_aload_n X dL_law_1649 rfl 3 rfl ?_
  refine wl_arg X 1 hi (by decide) (v := 1) (by decide) (ki := 1) (by decide) 1 0 rfl rfl dL_law_1650 dL_law_1651 dL_law_1652 dL_law_1653 dL_law_1654 ?_
  refine wl_callD X (as := [vI (xs (i.toInt.toNat + 1))]) (rest := []) (c_X12_tell l G cy ad 0 (xs (i.toInt.toNat + 1)) M2_ hD1_) kV_X12_tell pnn_17 (Nat.le_of_ble_eq_true rfl) m_1850 rfl rfl rfl (by decide) (Nat.le_of_ble_eq_true rfl) (Nat.le_of_ble_eq_true rfl) dL_law_1655 (fun r4_ M5_ q6_ => ?_)
  obtain ⟨hI2_, hF2_, -, hs2_⟩ := q6_
  have e2_ : (mgD M5_ M2_).1 = M5_.1 := mgD_self hF2_ SD_X12_tell
  have hI9_ : Inv (mgD M5_ M2_) := mgD_I hI1_
  have hD9_ : InvD (mgD M5_ M2_) := mgD_D hI2_
  have st_ := sy_37 hR hD hD1_ hI2_ hF1_ hs1_ hF2_ hs2_
  refine wl_pop X dL_law_1658 ?_
  refine wl_goto X (tgt := 1731) dL_law_1659 (by decide) ?_
  exact hend _ hI9_ hD9_ (by rw [e2_]; exact st_.1)
set_option maxHeartbeats 4000000 in
set_option maxRecDepth 100000 in
theorem law_case_38 {p : Program} {l : Launch} {e : Env} {s : State} {m : MethodId} {below : List Frame} {meth : Method} {c : Code} {b L : Nat} {xs : Nat → Int32} {A : Nat → Prop} {G : va_G} {cy : Nat → ClassId} {ad : rf → Nat} {ce sl : Nat} {Z : State → Prop} (X : LX p s m c b L xs A G cy ad ce sl) {i : Int32} {M : mM} (hI : Inv M) (hD : InvD M) (hR : RY M.1) (hi : 0 ≤ i.toInt ∧ i.toInt + 6 ≤ (L : Int)) (hend : ∀ M' : mM, Inv M' → InvD M' → RY M'.1 → WL p l e s m below meth c b A G cy ad ce sl Z 1731 [(3, vI i), (0, vR (94, 0, 0)), (1, vR (11, 0, 0)), (2, vR (12, 0, 0))] [] M') : WL p l e s m below meth c b A G cy ad ce sl Z 1662 [(3, vI i), (0, vR (94, 0, 0)), (1, vR (11, 0, 0)), (2, vR (12, 0, 0))] [] M := by
  refine wl_aload_n X dL_law_1662 rfl 2 rfl ?_
  refine wl_arg X 1 hi (by decide) (v := 1) (by decide) (ki := 1) (by decide) 1 0 rfl rfl dL_law_1663 dL_law_1664 dL_law_1665 dL_law_1666 dL_law_1667 ?_
  refine wl_callC X (as := [vI (xs (i.toInt.toNat + 1))]) (rest := []) (c_X11_check l G cy ad 0 (xs (i.toInt.toNat + 1)) M hI) kV_X11_check pnn_0 (Nat.le_of_ble_eq_true rfl) m_1288 rfl rfl rfl (by decide) (Nat.le_of_ble_eq_true rfl) (Nat.le_of_ble_eq_true rfl) dL_law_1668 (fun r1_ M2_ q3_ => ?_)
  obtain ⟨hI1_, hF1_, -, hs1_⟩ := q3_
  have e1_ : mgC M2_ M = M2_ := mgC_self hF1_ SC_X11_check
  rw [e1_]
  have hD1_ : InvD M2_ := e1_ ▸ mgC_D (M' := M2_) hD
  refine wl_pop X dL_law_1671 ?_
  refine wl_aload_n X dL_law_1672 rfl 3 rfl ?_
  refine wl_arg X 1 hi (by decide) (v := 1) (by decide) (ki := 1) (by decide) 1 0 rfl rfl dL_law_1673 dL_law_1674 dL_law_1675 dL_law_1676 dL_law_1677 ?_
  refine wl_callD X (as := [vI (xs (i.toInt.toNat + 1))]) (rest := []) (c_X12_check l G cy ad 0 (xs (i.toInt.toNat + 1)) M2_ hD1_) kV_X12_check pnn_17 (Nat.le_of_ble_eq_true rfl) m_1854 rfl rfl rfl (by decide) (Nat.le_of_ble_eq_true rfl) (Nat.le_of_ble_eq_true rfl) dL_law_1678 (fun r4_ M5_ q6_ => ?_)
  obtain ⟨hI2_, hF2_, -, hs2_⟩ := q6_
  have e2_ : (mgD M5_ M2_).1 = M5_.1 := mgD_self hF2_ SD_X12_check
  have hI9_ : Inv (mgD M5_ M2_) := mgD_I hI1_
  have hD9_ : InvD (mgD M5_ M2_) := mgD_D hI2_
  have st_ := sy_38 hR hD hD1_ hI2_ hF1_ hs1_ hF2_ hs2_
  refine wl_pop X dL_law_1681 ?_
  refine wl_goto X (tgt := 1731) dL_law_1682 (by decide) ?_
  exact hend _ hI9_ hD9_ (by rw [e2_]; exact st_.1)
set_option maxHeartbeats 4000000 in
set_option maxRecDepth 100000 in
theorem law_case_39 {p : Program} {l : Launch} {e : Env} {s : State} {m : MethodId} {below : List Frame} {meth : Method} {c : Code} {b L : Nat} {xs : Nat → Int32} {A : Nat → Prop} {G : va_G} {cy : Nat → ClassId} {ad : rf → Nat} {ce sl : Nat} {Z : State → Prop} (X : LX p s m c b L xs A G cy ad ce sl) {i : Int32} {M : mM} (hI : Inv M) (hD : InvD M) (hR : RY M.1) (hi : 0 ≤ i.toInt ∧ i.toInt + 6 ≤ (L : Int)) (hend : ∀ M' : mM, Inv M' → InvD M' → RY M'.1 → WL p l e s m below meth c b A G cy ad ce sl Z 1731 [(3, vI i), (0, vR (94, 0, 0)), (1, vR (11, 0, 0)), (2, vR (12, 0, 0))] [] M') : WL p l e s m below meth c b A G cy ad ce sl Z 1685 [(3, vI i), (0, vR (94, 0, 0)), (1, vR (11, 0, 0)), (2, vR (12, 0, 0))] [] M := by
  refine wl_aload_n X dL_law_1685 rfl 2 rfl ?_
  refine wl_arg X 1 hi (by decide) (v := 1) (by decide) (ki := 1) (by decide) 1 0 rfl rfl dL_law_1686 dL_law_1687 dL_law_1688 dL_law_1689 dL_law_1690 ?_
  refine wl_callC X (as := [vI (xs (i.toInt.toNat + 1))]) (rest := []) (c_X11_count l G cy ad 0 (xs (i.toInt.toNat + 1)) M hI) kV_X11_count pnn_0 (Nat.le_of_ble_eq_true rfl) m_1292 rfl rfl rfl (by decide) (Nat.le_of_ble_eq_true rfl) (Nat.le_of_ble_eq_true rfl) dL_law_1691 (fun r1_ M2_ q3_ => ?_)
  obtain ⟨hI1_, hF1_, -, hs1_⟩ := q3_
  have e1_ : mgC M2_ M = M2_ := mgC_self hF1_ SC_X11_count
  rw [e1_]
  have hD1_ : InvD M2_ := e1_ ▸ mgC_D (M' := M2_) hD
  refine wl_pop X dL_law_1694 ?_
  refine wl_aload_n X dL_law_1695 rfl 3 rfl ?_
  refine wl_arg X 1 hi (by decide) (v := 1) (by decide) (ki := 1) (by decide) 1 0 rfl rfl dL_law_1696 dL_law_1697 dL_law_1698 dL_law_1699 dL_law_1700 ?_
  refine wl_callD X (as := [vI (xs (i.toInt.toNat + 1))]) (rest := []) (c_X12_count l G cy ad 0 (xs (i.toInt.toNat + 1)) M2_ hD1_) kV_X12_count pnn_17 (Nat.le_of_ble_eq_true rfl) m_1858 rfl rfl rfl (by decide) (Nat.le_of_ble_eq_true rfl) (Nat.le_of_ble_eq_true rfl) dL_law_1701 (fun r4_ M5_ q6_ => ?_)
  obtain ⟨hI2_, hF2_, -, hs2_⟩ := q6_
  have e2_ : (mgD M5_ M2_).1 = M5_.1 := mgD_self hF2_ SD_X12_count
  have hI9_ : Inv (mgD M5_ M2_) := mgD_I hI1_
  have hD9_ : InvD (mgD M5_ M2_) := mgD_D hI2_
  have st_ := sy_39 hR hD hD1_ hI2_ hF1_ hs1_ hF2_ hs2_
  refine wl_pop X dL_law_1704 ?_
  refine wl_goto X (tgt := 1731) dL_law_1705 (by decide) ?_
  exact hend _ hI9_ hD9_ (by rw [e2_]; exact st_.1)
set_option maxHeartbeats 4000000 in
set_option maxRecDepth 100000 in
theorem law_case_40 {p : Program} {l : Launch} {e : Env} {s : State} {m : MethodId} {below : List Frame} {meth : Method} {c : Code} {b L : Nat} {xs : Nat → Int32} {A : Nat → Prop} {G : va_G} {cy : Nat → ClassId} {ad : rf → Nat} {ce sl : Nat} {Z : State → Prop} (X : LX p s m c b L xs A G cy ad ce sl) {i : Int32} {M : mM} (hI : Inv M) (hD : InvD M) (hR : RY M.1) (hi : 0 ≤ i.toInt ∧ i.toInt + 6 ≤ (L : Int)) (hend : ∀ M' : mM, Inv M' → InvD M' → RY M'.1 → WL p l e s m below meth c b A G cy ad ce sl Z 1731 [(3, vI i), (0, vR (94, 0, 0)), (1, vR (11, 0, 0)), (2, vR (12, 0, 0))] [] M') : WL p l e s m below meth c b A G cy ad ce sl Z 1708 [(3, vI i), (0, vR (94, 0, 0)), (1, vR (11, 0, 0)), (2, vR (12, 0, 0))] [] M := by
  refine wl_aload_n X dL_law_1708 rfl 2 rfl ?_
  refine wl_arg X 1 hi (by decide) (v := 1) (by decide) (ki := 1) (by decide) 1 0 rfl rfl dL_law_1709 dL_law_1710 dL_law_1711 dL_law_1712 dL_law_1713 ?_
  refine wl_callC X (as := [vI (xs (i.toInt.toNat + 1))]) (rest := []) (c_X11_told l G cy ad 0 (xs (i.toInt.toNat + 1)) M hI) kV_X11_told pnn_0 (Nat.le_of_ble_eq_true rfl) m_1308 rfl rfl rfl (by decide) (Nat.le_of_ble_eq_true rfl) (Nat.le_of_ble_eq_true rfl) dL_law_1714 (fun r1_ M2_ q3_ => ?_)
  obtain ⟨hI1_, hF1_, -, hs1_⟩ := q3_
  have e1_ : mgC M2_ M = M2_ := mgC_self hF1_ SC_X11_told
  rw [e1_]
  have hD1_ : InvD M2_ := e1_ ▸ mgC_D (M' := M2_) hD
  refine wl_pop X dL_law_1717 ?_
  refine wl_aload_n X dL_law_1718 rfl 3 rfl ?_
  refine wl_arg X 1 hi (by decide) (v := 1) (by decide) (ki := 1) (by decide) 1 0 rfl rfl dL_law_1719 dL_law_1720 dL_law_1721 dL_law_1722 dL_law_1723 ?_
  refine wl_callD X (as := [vI (xs (i.toInt.toNat + 1))]) (rest := []) (c_X12_told l G cy ad 0 (xs (i.toInt.toNat + 1)) M2_ hD1_) kV_X12_told pnn_17 (Nat.le_of_ble_eq_true rfl) m_1866 rfl rfl rfl (by decide) (Nat.le_of_ble_eq_true rfl) (Nat.le_of_ble_eq_true rfl) dL_law_1724 (fun r4_ M5_ q6_ => ?_)
  obtain ⟨hI2_, hF2_, -, hs2_⟩ := q6_
  have e2_ : (mgD M5_ M2_).1 = M5_.1 := mgD_self hF2_ SD_X12_told
  have hI9_ : Inv (mgD M5_ M2_) := mgD_I hI1_
  have hD9_ : InvD (mgD M5_ M2_) := mgD_D hI2_
  have st_ := sy_40 hR hD hD1_ hI2_ hF1_ hs1_ hF2_ hs2_
  refine wl_pop X dL_law_1727 ?_
  refine wl_goto X (tgt := 1731) dL_law_1728 (by decide) ?_
  exact hend _ hI9_ hD9_ (by rw [e2_]; exact st_.1)
end
section
/-! words of the tables that are used, by their places; decode rows; fields -/
theorem ch_code_0 : (code.data.toList.drop 0).take 36 = [187, 0, 7, 89, 183, 0, 9, 76, 187, 0, 10, 89, 183, 0, 12, 77, 3, 62, 29, 42, 190, 16, 6, 100, 163, 6, 177, 42, 29, 46, 16, 63, 126, 170, 0, 0] := by decide +kernel
theorem dL_law_18 : decode code 18 = .ok (.iload_n 3, 1) := do_29 (rdb (p := 0) (i := 18) ch_code_0 rfl)
theorem dL_law_19 : decode code 19 = .ok (.aload_n 0, 1) := do_42 (rdb (p := 0) (i := 19) ch_code_0 rfl)
theorem dL_law_20 : decode code 20 = .ok (.arraylength, 1) := do_190 (rdb (p := 0) (i := 20) ch_code_0 rfl)
theorem dL_law_21 : decode code 21 = .ok (.bipush 6, 2) := do_16 (rdb (p := 0) (i := 21) ch_code_0 rfl) (rdb (p := 0) (i := 22) ch_code_0 rfl) (by decide +kernel)
theorem dL_law_23 : decode code 23 = .ok (.isub, 1) := do_100 (rdb (p := 0) (i := 23) ch_code_0 rfl)
theorem dL_law_24 : decode code 24 = .ok (.if_icmp .gt 1713, 3) := do_163 (rdb (p := 0) (i := 24) ch_code_0 rfl) (rdb (p := 0) (i := 25) ch_code_0 rfl) (rdb (p := 0) (i := 26) ch_code_0 rfl) (by decide +kernel)
theorem dL_law_27 : decode code 27 = .ok (.aload_n 0, 1) := do_42 (rdb (p := 0) (i := 27) ch_code_0 rfl)
theorem dL_law_28 : decode code 28 = .ok (.iload_n 3, 1) := do_29 (rdb (p := 0) (i := 28) ch_code_0 rfl)
theorem dL_law_29 : decode code 29 = .ok (.iaload, 1) := do_46 (rdb (p := 0) (i := 29) ch_code_0 rfl)
theorem dL_law_30 : decode code 30 = .ok (.bipush 63, 2) := do_16 (rdb (p := 0) (i := 30) ch_code_0 rfl) (rdb (p := 0) (i := 31) ch_code_0 rfl) (by decide +kernel)
theorem ch_code_32 : (code.data.toList.drop 32).take 36 = [126, 170, 0, 0, 0, 0, 6, 162, 0, 0, 0, 0, 0, 0, 0, 40, 0, 0, 0, 179, 0, 0, 0, 212, 0, 0, 0, 245, 0, 0, 1, 32, 0, 0, 1, 55] := by decide +kernel
theorem dL_law_32 : decode code 32 = .ok (.iand, 1) := do_126 (rdb (p := 32) (i := 0) ch_code_32 rfl)
theorem dL_law_33 : decode code 33 = .ok (.tableswitch 1698 0 40 #[179, 212, 245, 288, 311, 354, 377, 410, 443, 486, 519, 552, 605, 638, 687, 750, 773, 826, 849, 892, 925, 988, 1041, 1084, 1137, 1160, 1203, 1226, 1269, 1312, 1365, 1408, 1431, 1474, 1517, 1580, 1593, 1606, 1629, 1652, 1675], 179) := by decide +kernel
theorem dL_law_1731 : decode code 1731 = .ok (.iinc 3 6, 3) := do_132 (rdb (p := 1728) (i := 3) ch_code_1728 rfl) (rdb (p := 1728) (i := 4) ch_code_1728 rfl) (rdb (p := 1728) (i := 5) ch_code_1728 rfl) (by decide +kernel)
theorem dL_law_1734 : decode code 1734 = .ok (.goto (-1716), 3) := do_167 (rdb (p := 1728) (i := 6) ch_code_1728 rfl) (rdb (p := 1728) (i := 7) ch_code_1728 rfl) (rdb (p := 1728) (i := 8) ch_code_1728 rfl) (by decide +kernel)
end
section
set_option maxHeartbeats 4000000 in
set_option maxRecDepth 100000 in
theorem law_loop {p : Program} {l : Launch} {e : Env} {s : State} {m : MethodId} {below : List Frame} {meth : Method} {c : Code} {b L : Nat} {xs : Nat → Int32} {A : Nat → Prop} {G : va_G} {cy : Nat → ClassId} {ad : rf → Nat} {ce sl : Nat} {Z : State → Prop} (X : LX p s m c b L xs A G cy ad ce sl) (hfin : ∀ (M : mM) (ls : List (Nat × mV)), WL p l e s m below meth c b A G cy ad ce sl Z 1737 ls [] M) : ∀ (nn : Nat) (i : Int32) (M : mM), Inv M → InvD M → RY M.1 → 0 ≤ i.toInt ∧ i.toInt ≤ (L : Int) → ((L : Int) - i.toInt).toNat < nn → WL p l e s m below meth c b A G cy ad ce sl Z 18 [(3, vI i), (0, vR (94, 0, 0)), (1, vR (11, 0, 0)), (2, vR (12, 0, 0))] [] M := by
  intro nn
  induction nn with
  | zero => intro i M hI hD hR hi hm; exact absurd hm (Nat.not_lt_zero _)
  | succ nn ih =>
    intro i M hI hD hR hi hm
    have hL := X.2.2.2.2.2.2.2.2.2.2.2.2.1
    refine wl_iload_n X dL_law_18 rfl 0 rfl ?_
    refine wl_aload_n X dL_law_19 rfl 1 rfl ?_
    refine wl_slen X dL_law_20 (fun z hz => ?_)
    refine wl_bipush X (v := 6) dL_law_21 (by decide) ?_
    refine wl_isubB X dL_law_23 hz (c0 := 6) (by decide) (by omega) (fun z2 hz2 => ?_)
    refine wl_icmp_gt X (tgt := 1737) dL_law_24 (by decide) rfl hz2 (fun _ => hfin _ _) (fun h6 => ?_)
    have hi6 : 0 ≤ i.toInt ∧ i.toInt + 6 ≤ (L : Int) := ⟨hi.1, by omega⟩
    refine wl_aload_n X dL_law_27 rfl 1 rfl ?_
    refine wl_iload_n X dL_law_28 rfl 0 rfl ?_
    refine wl_sld X i.toInt.toNat (by omega) (by omega) dL_law_29 ?_
    refine wl_bipush X (v := 63) dL_law_30 (by decide) ?_
    refine wl_iandB X 6 dL_law_32 (by decide) (by decide) (fun w hw => ?_)
    have hend : ∀ M' : mM, Inv M' → InvD M' → RY M'.1 → WL p l e s m below meth c b A G cy ad ce sl Z 1731 [(3, vI i), (0, vR (94, 0, 0)), (1, vR (11, 0, 0)), (2, vR (12, 0, 0))] [] M' := by
      intro M' hI' hD' hR'
      refine wl_iincB X (j := 0) (f := fun z => [(3, vI z), (0, vR (94, 0, 0)), (1, vR (11, 0, 0)), (2, vR (12, 0, 0))]) dL_law_1731 rfl (by decide) (fun _ => rfl) rfl (by decide) (by omega) (fun z3 hz3 => ?_)
      refine wl_goto X (tgt := 18) dL_law_1734 (by decide) ?_
      exact ih z3 M' hI' hD' hR' ⟨by omega, by omega⟩ (by omega)
    obtain ⟨j, hj⟩ : ∃ j : Nat, w.toInt = (j : Int) := ⟨w.toInt.toNat, by omega⟩
    rcases Nat.lt_or_ge j 41 with h41 | h41
    · match j, h41 with
      | 0, _ => exact wl_tsIn X (tgt := 212) (off := 179) dL_law_33 hj (by decide) (by decide) rfl (by decide) (law_case_0 X hI hD hR hi6 hend)
      | 1, _ => exact wl_tsIn X (tgt := 245) (off := 212) dL_law_33 hj (by decide) (by decide) rfl (by decide) (law_case_1 X hI hD hR hi6 hend)
      | 2, _ => exact wl_tsIn X (tgt := 278) (off := 245) dL_law_33 hj (by decide) (by decide) rfl (by decide) (law_case_2 X hI hD hR hi6 hend)
      | 3, _ => exact wl_tsIn X (tgt := 321) (off := 288) dL_law_33 hj (by decide) (by decide) rfl (by decide) (law_case_3 X hI hD hR hi6 hend)
      | 4, _ => exact wl_tsIn X (tgt := 344) (off := 311) dL_law_33 hj (by decide) (by decide) rfl (by decide) (law_case_4 X hI hD hR hi6 hend)
      | 5, _ => exact wl_tsIn X (tgt := 387) (off := 354) dL_law_33 hj (by decide) (by decide) rfl (by decide) (law_case_5 X hI hD hR hi6 hend)
      | 6, _ => exact wl_tsIn X (tgt := 410) (off := 377) dL_law_33 hj (by decide) (by decide) rfl (by decide) (law_case_6 X hI hD hR hi6 hend)
      | 7, _ => exact wl_tsIn X (tgt := 443) (off := 410) dL_law_33 hj (by decide) (by decide) rfl (by decide) (law_case_7 X hI hD hR hi6 hend)
      | 8, _ => exact wl_tsIn X (tgt := 476) (off := 443) dL_law_33 hj (by decide) (by decide) rfl (by decide) (law_case_8 X hI hD hR hi6 hend)
      | 9, _ => exact wl_tsIn X (tgt := 519) (off := 486) dL_law_33 hj (by decide) (by decide) rfl (by decide) (law_case_9 X hI hD hR hi6 hend)
      | 10, _ => exact wl_tsIn X (tgt := 552) (off := 519) dL_law_33 hj (by decide) (by decide) rfl (by decide) (law_case_10 X hI hD hR hi6 hend)
      | 11, _ => exact wl_tsIn X (tgt := 585) (off := 552) dL_law_33 hj (by decide) (by decide) rfl (by decide) (law_case_11 X hI hD hR hi6 hend)
      | 12, _ => exact wl_tsIn X (tgt := 638) (off := 605) dL_law_33 hj (by decide) (by decide) rfl (by decide) (law_case_12 X hI hD hR hi6 hend)
      | 13, _ => exact wl_tsIn X (tgt := 671) (off := 638) dL_law_33 hj (by decide) (by decide) rfl (by decide) (law_case_13 X hI hD hR hi6 hend)
      | 14, _ => exact wl_tsIn X (tgt := 720) (off := 687) dL_law_33 hj (by decide) (by decide) rfl (by decide) (law_case_14 X hI hD hR hi6 hend)
      | 15, _ => exact wl_tsIn X (tgt := 783) (off := 750) dL_law_33 hj (by decide) (by decide) rfl (by decide) (law_case_15 X hI hD hR hi6 hend)
      | 16, _ => exact wl_tsIn X (tgt := 806) (off := 773) dL_law_33 hj (by decide) (by decide) rfl (by decide) (law_case_16 X hI hD hR hi6 hend)
      | 17, _ => exact wl_tsIn X (tgt := 859) (off := 826) dL_law_33 hj (by decide) (by decide) rfl (by decide) (law_case_17 X hI hD hR hi6 hend)
      | 18, _ => exact wl_tsIn X (tgt := 882) (off := 849) dL_law_33 hj (by decide) (by decide) rfl (by decide) (law_case_18 X hI hD hR hi6 hend)
      | 19, _ => exact wl_tsIn X (tgt := 925) (off := 892) dL_law_33 hj (by decide) (by decide) rfl (by decide) (law_case_19 X hI hD hR hi6 hend)
      | 20, _ => exact wl_tsIn X (tgt := 958) (off := 925) dL_law_33 hj (by decide) (by decide) rfl (by decide) (law_case_20 X hI hD hR hi6 hend)
      | 21, _ => exact wl_tsIn X (tgt := 1021) (off := 988) dL_law_33 hj (by decide) (by decide) rfl (by decide) (law_case_21 X hI hD hR hi6 hend)
      | 22, _ => exact wl_tsIn X (tgt := 1074) (off := 1041) dL_law_33 hj (by decide) (by decide) rfl (by decide) (law_case_22 X hI hD hR hi6 hend)
      | 23, _ => exact wl_tsIn X (tgt := 1117) (off := 1084) dL_law_33 hj (by decide) (by decide) rfl (by decide) (law_case_23 X hI hD hR hi6 hend)
      | 24, _ => exact wl_tsIn X (tgt := 1170) (off := 1137) dL_law_33 hj (by decide) (by decide) rfl (by decide) (law_case_24 X hI hD hR hi6 hend)
      | 25, _ => exact wl_tsIn X (tgt := 1193) (off := 1160) dL_law_33 hj (by decide) (by decide) rfl (by decide) (law_case_25 X hI hD hR hi6 hend)
      | 26, _ => exact wl_tsIn X (tgt := 1236) (off := 1203) dL_law_33 hj (by decide) (by decide) rfl (by decide) (law_case_26 X hI hD hR hi6 hend)
      | 27, _ => exact wl_tsIn X (tgt := 1259) (off := 1226) dL_law_33 hj (by decide) (by decide) rfl (by decide) (law_case_27 X hI hD hR hi6 hend)
      | 28, _ => exact wl_tsIn X (tgt := 1302) (off := 1269) dL_law_33 hj (by decide) (by decide) rfl (by decide) (law_case_28 X hI hD hR hi6 hend)
      | 29, _ => exact wl_tsIn X (tgt := 1345) (off := 1312) dL_law_33 hj (by decide) (by decide) rfl (by decide) (law_case_29 X hI hD hR hi6 hend)
      | 30, _ => exact wl_tsIn X (tgt := 1398) (off := 1365) dL_law_33 hj (by decide) (by decide) rfl (by decide) (law_case_30 X hI hD hR hi6 hend)
      | 31, _ => exact wl_tsIn X (tgt := 1441) (off := 1408) dL_law_33 hj (by decide) (by decide) rfl (by decide) (law_case_31 X hI hD hR hi6 hend)
      | 32, _ => exact wl_tsIn X (tgt := 1464) (off := 1431) dL_law_33 hj (by decide) (by decide) rfl (by decide) (law_case_32 X hI hD hR hi6 hend)
      | 33, _ => exact wl_tsIn X (tgt := 1507) (off := 1474) dL_law_33 hj (by decide) (by decide) rfl (by decide) (law_case_33 X hI hD hR hi6 hend)
      | 34, _ => exact wl_tsIn X (tgt := 1550) (off := 1517) dL_law_33 hj (by decide) (by decide) rfl (by decide) (law_case_34 X hI hD hR hi6 hend)
      | 35, _ => exact wl_tsIn X (tgt := 1613) (off := 1580) dL_law_33 hj (by decide) (by decide) rfl (by decide) (law_case_35 X hI hD hR hi6 hend)
      | 36, _ => exact wl_tsIn X (tgt := 1626) (off := 1593) dL_law_33 hj (by decide) (by decide) rfl (by decide) (law_case_36 X hI hD hR hi6 hend)
      | 37, _ => exact wl_tsIn X (tgt := 1639) (off := 1606) dL_law_33 hj (by decide) (by decide) rfl (by decide) (law_case_37 X hI hD hR hi6 hend)
      | 38, _ => exact wl_tsIn X (tgt := 1662) (off := 1629) dL_law_33 hj (by decide) (by decide) rfl (by decide) (law_case_38 X hI hD hR hi6 hend)
      | 39, _ => exact wl_tsIn X (tgt := 1685) (off := 1652) dL_law_33 hj (by decide) (by decide) rfl (by decide) (law_case_39 X hI hD hR hi6 hend)
      | 40, _ => exact wl_tsIn X (tgt := 1708) (off := 1675) dL_law_33 hj (by decide) (by decide) rfl (by decide) (law_case_40 X hI hD hR hi6 hend)
      | j + 41, h => exact absurd h (by omega)
    · exact wl_tsOut X (tgt := 1731) dL_law_33 hj (Or.inr (by omega)) (by decide) (hend M hI hD hR)
end
section
/-! words of the tables that are used, by their places; decode rows; fields -/
set_option maxRecDepth 20000 in
theorem m_102 : Cond.instantiable RX11 9 ∈ BASE := bmT1 24 rfl rfl
set_option maxRecDepth 20000 in
theorem m_110 : Cond.instantiable RX10 8 ∈ BASE := bmT1 32 rfl rfl
set_option maxRecDepth 20000 in
theorem m_116 : Cond.instantiable RX7 6 ∈ BASE := bmT1 38 rfl rfl
set_option maxRecDepth 20000 in
theorem m_146 : Cond.arrayClass .int ∈ BASE := bmT1 68 rfl rfl
set_option maxRecDepth 20000 in
theorem m_148 : Cond.instantiable RX2 7 ∈ BASE := bmT1 70 rfl rfl
set_option maxRecDepth 20000 in
theorem m_155 : Cond.instantiable RX1 3 ∈ BASE := bmT1 77 rfl rfl
set_option maxRecDepth 20000 in
theorem m_194 : Cond.instantiable RX3 9 ∈ BASE := bmT1 116 rfl rfl
set_option maxRecDepth 20000 in
theorem m_200 : Cond.instantiable RX5 2 ∈ BASE := bmT1 122 rfl rfl
set_option maxRecDepth 20000 in
theorem m_253 : Cond.instantiable RX9 11 ∈ BASE := bmT1 175 rfl rfl
set_option maxRecDepth 20000 in
theorem m_348 : Cond.instantiable RX4 7 ∈ BASE := bmT2 30 rfl rfl
set_option maxRecDepth 20000 in
theorem m_383 : Cond.instantiable RX0 6 ∈ BASE := bmT2 65 rfl rfl
set_option maxRecDepth 20000 in
theorem m_409 : Cond.arrayClass .boolean ∈ BASE := bmT2 91 rfl rfl
set_option maxRecDepth 20000 in
theorem m_410 : Cond.arrayClass .long ∈ BASE := bmT2 92 rfl rfl
set_option maxRecDepth 20000 in
theorem m_412 : Cond.instantiable RX8 6 ∈ BASE := bmT2 94 rfl rfl
set_option maxRecDepth 20000 in
theorem m_440 : Cond.instantiable RX6 3 ∈ BASE := bmT2 122 rfl rfl
set_option maxRecDepth 20000 in
theorem m_1313 : Cond.instantiable RX12 33 ∈ BASE := bmT6 35 rfl rfl
end
section
theorem known_all {s : State} {args : Array Value} (hts : ∀ w ∈ BASE, w.before args s = true) : ∀ k : Nat, ∃ d : ClassId × (Nat → Nat), ∀ q : vw_C, classes[k]? = some q → u_Kn s q.1 q.2.1 q.2.2 d.1 d.2 := by
  intro k
  match k with
  | 0 => obtain ⟨c, i, h⟩ := u_known (C := RX0) (T := TX0) (N := 6) hts inB0 (hts _ m_383); exact ⟨(c, i), fun q hq => by cases hq; exact h⟩
  | 1 => obtain ⟨c, i, h⟩ := u_known (C := RX1) (T := TX1) (N := 3) hts inB1 (hts _ m_155); exact ⟨(c, i), fun q hq => by cases hq; exact h⟩
  | 2 => obtain ⟨c, i, h⟩ := u_known (C := RX2) (T := TX2) (N := 7) hts inB2 (hts _ m_148); exact ⟨(c, i), fun q hq => by cases hq; exact h⟩
  | 3 => obtain ⟨c, i, h⟩ := u_known (C := RX3) (T := TX3) (N := 9) hts inB3 (hts _ m_194); exact ⟨(c, i), fun q hq => by cases hq; exact h⟩
  | 4 => obtain ⟨c, i, h⟩ := u_known (C := RX4) (T := TX4) (N := 7) hts inB4 (hts _ m_348); exact ⟨(c, i), fun q hq => by cases hq; exact h⟩
  | 5 => obtain ⟨c, i, h⟩ := u_known (C := RX5) (T := TX5) (N := 2) hts inB5 (hts _ m_200); exact ⟨(c, i), fun q hq => by cases hq; exact h⟩
  | 6 => obtain ⟨c, i, h⟩ := u_known (C := RX6) (T := TX6) (N := 3) hts inB6 (hts _ m_440); exact ⟨(c, i), fun q hq => by cases hq; exact h⟩
  | 7 => obtain ⟨c, i, h⟩ := u_known (C := RX7) (T := TX7) (N := 6) hts inB7 (hts _ m_116); exact ⟨(c, i), fun q hq => by cases hq; exact h⟩
  | 8 => obtain ⟨c, i, h⟩ := u_known (C := RX8) (T := TX8) (N := 6) hts inB8 (hts _ m_412); exact ⟨(c, i), fun q hq => by cases hq; exact h⟩
  | 9 => obtain ⟨c, i, h⟩ := u_known (C := RX9) (T := TX9) (N := 11) hts inB9 (hts _ m_253); exact ⟨(c, i), fun q hq => by cases hq; exact h⟩
  | 10 => obtain ⟨c, i, h⟩ := u_known (C := RX10) (T := TX10) (N := 8) hts inB10 (hts _ m_110); exact ⟨(c, i), fun q hq => by cases hq; exact h⟩
  | 11 => obtain ⟨c, i, h⟩ := u_known (C := RX11) (T := TX11) (N := 9) hts inB11 (hts _ m_102); exact ⟨(c, i), fun q hq => by cases hq; exact h⟩
  | 12 => obtain ⟨c, i, h⟩ := u_known (C := RX12) (T := TX12) (N := 33) hts inB12 (hts _ m_1313); exact ⟨(c, i), fun q hq => by cases hq; exact h⟩
  | k + 13 => exact ⟨(0, fun _ => 0), fun q hq => by simp [classes] at hq⟩
abbrev TL : List FieldType := [.int, .boolean, .long, .object "ClickStreet$Formula", .object "ClickStreet$Walker", .object "ClickStreet$Sheet", .object "java/lang/String"]
theorem arr_p {s : State} {args : Array Value} {ty : FieldType} (h : (Cond.arrayClass ty).before args s = true) : ∃ cA : ClassId, ArrOfT s cA ty ∧ s.vm.findClass ("[" ++ ty.toString) = some cA := by
  obtain ⟨c, kA, comp, h1, h2, h3⟩ := Cond.arrayClass_spec (args := args) (first := s) (o := none) (s := s) (idx := []) h
  exact ⟨c, fun n z => ⟨(fun k q => by cases q), kA, h2, comp, h3⟩, h1⟩
theorem arr_q {s : State} {args : Array Value} {C : String} (h : (Cond.arrayOver (.object C)).before args s = true) : ∃ cA : ClassId, ArrOfT s cA (.object C) ∧ va_RA s cA (.object C) := by
  obtain ⟨comp, c, kA, h1, h2, h3, h4, h5⟩ := Cond.arrayOver_spec (args := args) (first := s) (o := none) (s := s) (idx := []) h
  exact ⟨c, fun n z => ⟨(fun k q => by cases q), kA, h3, comp, h4⟩, kA, comp, h3, h4, h1, h5⟩
theorem arr_all {s : State} {args : Array Value} (hts : ∀ w ∈ BASE, w.before args s = true) (hAO : ∀ C ∈ AOs, (Cond.arrayOver (.object C)).before args s = true) : ∀ k : Nat, ∃ cA : ClassId, ∀ ty : FieldType, TL[k]? = some ty → ArrOfT s cA ty ∧ va_RA s cA ty := by
  intro k
  match k with
  | 0 => obtain ⟨c, h1, h2⟩ := arr_p (hts _ m_146); exact ⟨c, fun q hq => by cases hq; exact ⟨h1, h2⟩⟩
  | 1 => obtain ⟨c, h1, h2⟩ := arr_p (hts _ m_409); exact ⟨c, fun q hq => by cases hq; exact ⟨h1, h2⟩⟩
  | 2 => obtain ⟨c, h1, h2⟩ := arr_p (hts _ m_410); exact ⟨c, fun q hq => by cases hq; exact ⟨h1, h2⟩⟩
  | 3 => obtain ⟨c, h1, h2⟩ := arr_q (hAO "ClickStreet$Formula" (by decide)); exact ⟨c, fun q hq => by cases hq; exact ⟨h1, h2⟩⟩
  | 4 => obtain ⟨c, h1, h2⟩ := arr_q (hAO "ClickStreet$Walker" (by decide)); exact ⟨c, fun q hq => by cases hq; exact ⟨h1, h2⟩⟩
  | 5 => obtain ⟨c, h1, h2⟩ := arr_q (hAO "ClickStreet$Sheet" (by decide)); exact ⟨c, fun q hq => by cases hq; exact ⟨h1, h2⟩⟩
  | 6 => obtain ⟨c, h1, h2⟩ := arr_q (hAO "java/lang/String" (by decide)); exact ⟨c, fun q hq => by cases hq; exact ⟨h1, h2⟩⟩
  | k + 7 => exact ⟨0, fun q hq => by simp [TL] at hq⟩
theorem nf_in : ∀ q ∈ NFs, Cond.fieldLinkNest q.1 q.2.1 q.2.2.1 q.2.2.2.1 q.2.2.2.2.1 q.2.2.2.2.2 ∈ lw_tbl := by
  have h : NFs.map (fun (q : String × Nat × String × String × String × String) => Cond.fieldLinkNest q.1 q.2.1 q.2.2.1 q.2.2.2.1 q.2.2.2.2.1 q.2.2.2.2.2) = ([122, 123, 125, 127, 129, 131, 176, 210, 211, 212, 222, 225, 228, 259, 261, 262, 263, 265, 266, 268, 269, 271, 273, 274, 276, 277, 279, 281, 283, 285, 310, 311, 313, 314, 316, 318, 320, 322, 323, 325, 327, 359, 393, 395, 421, 426, 446, 448, 449, 451] : List Nat).filterMap (fun i => lw_tbl[i]?) := by decide +kernel
  intro q hq
  have h1 := List.mem_map_of_mem (f := fun (q : String × Nat × String × String × String × String) => Cond.fieldLinkNest q.1 q.2.1 q.2.2.1 q.2.2.2.1 q.2.2.2.2.1 q.2.2.2.2.2) hq
  rw [h] at h1
  obtain ⟨i, -, hi⟩ := List.mem_filterMap.mp h1
  exact List.mem_of_getElem? hi
theorem nm_in : ∀ q ∈ NMs, Cond.methodLinkNest q.1 q.2.1 q.2.2.1 q.2.2.2 ∈ lw_tbl := by
  have h : NMs.map (fun (q : String × Nat × MethodName × String) => Cond.methodLinkNest q.1 q.2.1 q.2.2.1 q.2.2.2) = ([156, 195, 254, 349, 354, 384, 413, 441, 656] : List Nat).filterMap (fun i => lw_tbl[i]?) := by decide +kernel
  intro q hq
  have h1 := List.mem_map_of_mem (f := fun (q : String × Nat × MethodName × String) => Cond.methodLinkNest q.1 q.2.1 q.2.2.1 q.2.2.2) hq
  rw [h] at h1
  obtain ⟨i, -, hi⟩ := List.mem_filterMap.mp h1
  exact List.mem_of_getElem? hi
theorem ns_in : ∀ q ∈ NSs, Cond.stringRef q.1 q.2.1 q.2.2 ∈ lw_tbl := by
  have h : NSs.map (fun (q : String × Nat × String) => Cond.stringRef q.1 q.2.1 q.2.2) = ([357, 685, 686, 687, 1320, 1321, 1322] : List Nat).filterMap (fun i => lw_tbl[i]?) := by decide +kernel
  intro q hq
  have h1 := List.mem_map_of_mem (f := fun (q : String × Nat × String) => Cond.stringRef q.1 q.2.1 q.2.2) hq
  rw [h] at h1
  obtain ⟨i, -, hi⟩ := List.mem_filterMap.mp h1
  exact List.mem_of_getElem? hi
theorem ao_in : ∀ q ∈ AOs, Cond.arrayOver (.object q) ∈ lw_tbl := by
  have h : AOs.map (fun (q : String) => Cond.arrayOver (.object q)) = ([154, 252, 346, 1319] : List Nat).filterMap (fun i => lw_tbl[i]?) := by decide +kernel
  intro q hq
  have h1 := List.mem_map_of_mem (f := fun (q : String) => Cond.arrayOver (.object q)) hq
  rw [h] at h1
  obtain ⟨i, -, hi⟩ := List.mem_filterMap.mp h1
  exact List.mem_of_getElem? hi
theorem str_0 {s : State} {args : Array Value} (hts : ∀ w ∈ lw_tbl, w.before args s = true) (hgv : (Jvm.Cond.and given_1 narrow_1).before args s = true) : ∃ a t : Nat, (∀ q : String × Nat × String, NSs[0]? = some q → vk_R q.1 q.2.1 q.2.2 a s) ∧ va_O "java/lang/String" a (fun q => s.heap.size ≤ q) s s.heap ∧ va_OF "java/lang/String" "coder" "B" (.int 0) a (fun q => s.heap.size ≤ q) s s.heap ∧ va_OF "java/lang/String" "value" "[B" (.ref t) a (fun q => s.heap.size ≤ q) s s.heap ∧ va_T .byte t 0 (fun j => .int (([] : List Int32).getD j 0)) (fun q => s.heap.size ≤ q) s s.heap := by
  have hs := flat_of_before _ hgv
  have hex : (Cond.exactly (.string "ClickStreet$Reader" 25) "java/lang/String").before args s = true := hs _ (by decide +kernel)
  obtain ⟨a, c, cA, kA, q1, -⟩ := Cond.exactly_spec (args := args) (first := s) (o := none) (s := s) (idx := []) (t := .string "ClickStreet$Reader" 25) (cls := "java/lang/String") hex
  obtain ⟨t, h1, h2⟩ := va_Tof (A := (fun q => s.heap.size ≤ q)) (tm := .field (.string "ClickStreet$Reader" 25) "java/lang/String" "value" "[B") (ty := .byte) (N := 0) (f := fun j => .int (([] : List Int32).getD j 0)) (by decide) (hs _ (by decide +kernel)) (va_eqt (z := 0) (hs _ (by decide +kernel))) (fun j hj => by
    exact absurd hj (by omega)) (fun a h => Nat.not_le.mpr h)
  exact ⟨a, t, fun q hq => by cases hq; exact vk_R.of (hts _ (ns_in _ (by decide))) q1, va_Oof hex q1 (fun a h => Nat.not_le.mpr h), vk_OFof q1 (va_eqt (z := 0) (hs _ (by decide +kernel))) (fun a h => Nat.not_le.mpr h), vk_OFof q1 h1 (fun a h => Nat.not_le.mpr h), h2⟩
theorem str_1 {s : State} {args : Array Value} (hts : ∀ w ∈ lw_tbl, w.before args s = true) (hgv : (Jvm.Cond.and given_1 narrow_1).before args s = true) : ∃ a t : Nat, (∀ q : String × Nat × String, NSs[1]? = some q → vk_R q.1 q.2.1 q.2.2 a s) ∧ va_O "java/lang/String" a (fun q => s.heap.size ≤ q) s s.heap ∧ va_OF "java/lang/String" "coder" "B" (.int 0) a (fun q => s.heap.size ≤ q) s s.heap ∧ va_OF "java/lang/String" "value" "[B" (.ref t) a (fun q => s.heap.size ≤ q) s s.heap ∧ va_T .byte t 4 (fun j => .int (([108, 111, 121, 112] : List Int32).getD j 0)) (fun q => s.heap.size ≤ q) s s.heap := by
  have hs := flat_of_before _ hgv
  have hex : (Cond.exactly (.string "ClickStreet$Reader" 44) "java/lang/String").before args s = true := hs _ (by decide +kernel)
  obtain ⟨a, c, cA, kA, q1, -⟩ := Cond.exactly_spec (args := args) (first := s) (o := none) (s := s) (idx := []) (t := .string "ClickStreet$Reader" 44) (cls := "java/lang/String") hex
  obtain ⟨t, h1, h2⟩ := va_Tof (A := (fun q => s.heap.size ≤ q)) (tm := .field (.string "ClickStreet$Reader" 44) "java/lang/String" "value" "[B") (ty := .byte) (N := 4) (f := fun j => .int (([108, 111, 121, 112] : List Int32).getD j 0)) (by decide) (hs _ (by decide +kernel)) (va_eqt (z := 4) (hs _ (by decide +kernel))) (fun j hj => by
    match j, hj with
    | 0, _ => exact va_eqt (t := .elem (.field (.string "ClickStreet$Reader" 44) "java/lang/String" "value" "[B") (.int (0 : Int32))) (z := 108) (hs _ (by decide +kernel))
    | 1, _ => exact va_eqt (t := .elem (.field (.string "ClickStreet$Reader" 44) "java/lang/String" "value" "[B") (.int (1 : Int32))) (z := 111) (hs _ (by decide +kernel))
    | 2, _ => exact va_eqt (t := .elem (.field (.string "ClickStreet$Reader" 44) "java/lang/String" "value" "[B") (.int (2 : Int32))) (z := 121) (hs _ (by decide +kernel))
    | 3, _ => exact va_eqt (t := .elem (.field (.string "ClickStreet$Reader" 44) "java/lang/String" "value" "[B") (.int (3 : Int32))) (z := 112) (hs _ (by decide +kernel))
    | j + 4, h => exact absurd h (by omega)) (fun a h => Nat.not_le.mpr h)
  exact ⟨a, t, fun q hq => by cases hq; exact vk_R.of (hts _ (ns_in _ (by decide))) q1, va_Oof hex q1 (fun a h => Nat.not_le.mpr h), vk_OFof q1 (va_eqt (z := 0) (hs _ (by decide +kernel))) (fun a h => Nat.not_le.mpr h), vk_OFof q1 h1 (fun a h => Nat.not_le.mpr h), h2⟩
theorem str_2 {s : State} {args : Array Value} (hts : ∀ w ∈ lw_tbl, w.before args s = true) (hgv : (Jvm.Cond.and given_1 narrow_1).before args s = true) : ∃ a t : Nat, (∀ q : String × Nat × String, NSs[2]? = some q → vk_R q.1 q.2.1 q.2.2 a s) ∧ va_O "java/lang/String" a (fun q => s.heap.size ≤ q) s s.heap ∧ va_OF "java/lang/String" "coder" "B" (.int 0) a (fun q => s.heap.size ≤ q) s s.heap ∧ va_OF "java/lang/String" "value" "[B" (.ref t) a (fun q => s.heap.size ≤ q) s s.heap ∧ va_T .byte t 3 (fun j => .int (([115, 110, 116] : List Int32).getD j 0)) (fun q => s.heap.size ≤ q) s s.heap := by
  have hs := flat_of_before _ hgv
  have hex : (Cond.exactly (.string "ClickStreet$Reader" 48) "java/lang/String").before args s = true := hs _ (by decide +kernel)
  obtain ⟨a, c, cA, kA, q1, -⟩ := Cond.exactly_spec (args := args) (first := s) (o := none) (s := s) (idx := []) (t := .string "ClickStreet$Reader" 48) (cls := "java/lang/String") hex
  obtain ⟨t, h1, h2⟩ := va_Tof (A := (fun q => s.heap.size ≤ q)) (tm := .field (.string "ClickStreet$Reader" 48) "java/lang/String" "value" "[B") (ty := .byte) (N := 3) (f := fun j => .int (([115, 110, 116] : List Int32).getD j 0)) (by decide) (hs _ (by decide +kernel)) (va_eqt (z := 3) (hs _ (by decide +kernel))) (fun j hj => by
    match j, hj with
    | 0, _ => exact va_eqt (t := .elem (.field (.string "ClickStreet$Reader" 48) "java/lang/String" "value" "[B") (.int (0 : Int32))) (z := 115) (hs _ (by decide +kernel))
    | 1, _ => exact va_eqt (t := .elem (.field (.string "ClickStreet$Reader" 48) "java/lang/String" "value" "[B") (.int (1 : Int32))) (z := 110) (hs _ (by decide +kernel))
    | 2, _ => exact va_eqt (t := .elem (.field (.string "ClickStreet$Reader" 48) "java/lang/String" "value" "[B") (.int (2 : Int32))) (z := 116) (hs _ (by decide +kernel))
    | j + 3, h => exact absurd h (by omega)) (fun a h => Nat.not_le.mpr h)
  exact ⟨a, t, fun q hq => by cases hq; exact vk_R.of (hts _ (ns_in _ (by decide))) q1, va_Oof hex q1 (fun a h => Nat.not_le.mpr h), vk_OFof q1 (va_eqt (z := 0) (hs _ (by decide +kernel))) (fun a h => Nat.not_le.mpr h), vk_OFof q1 h1 (fun a h => Nat.not_le.mpr h), h2⟩
theorem str_3 {s : State} {args : Array Value} (hts : ∀ w ∈ lw_tbl, w.before args s = true) (hgv : (Jvm.Cond.and given_1 narrow_1).before args s = true) : ∃ a t : Nat, (∀ q : String × Nat × String, NSs[3]? = some q → vk_R q.1 q.2.1 q.2.2 a s) ∧ va_O "java/lang/String" a (fun q => s.heap.size ≤ q) s s.heap ∧ va_OF "java/lang/String" "coder" "B" (.int 0) a (fun q => s.heap.size ≤ q) s s.heap ∧ va_OF "java/lang/String" "value" "[B" (.ref t) a (fun q => s.heap.size ≤ q) s s.heap ∧ va_T .byte t 5 (fun j => .int (([102, 108, 114, 98, 116] : List Int32).getD j 0)) (fun q => s.heap.size ≤ q) s s.heap := by
  have hs := flat_of_before _ hgv
  have hex : (Cond.exactly (.string "ClickStreet$Reader" 50) "java/lang/String").before args s = true := hs _ (by decide +kernel)
  obtain ⟨a, c, cA, kA, q1, -⟩ := Cond.exactly_spec (args := args) (first := s) (o := none) (s := s) (idx := []) (t := .string "ClickStreet$Reader" 50) (cls := "java/lang/String") hex
  obtain ⟨t, h1, h2⟩ := va_Tof (A := (fun q => s.heap.size ≤ q)) (tm := .field (.string "ClickStreet$Reader" 50) "java/lang/String" "value" "[B") (ty := .byte) (N := 5) (f := fun j => .int (([102, 108, 114, 98, 116] : List Int32).getD j 0)) (by decide) (hs _ (by decide +kernel)) (va_eqt (z := 5) (hs _ (by decide +kernel))) (fun j hj => by
    match j, hj with
    | 0, _ => exact va_eqt (t := .elem (.field (.string "ClickStreet$Reader" 50) "java/lang/String" "value" "[B") (.int (0 : Int32))) (z := 102) (hs _ (by decide +kernel))
    | 1, _ => exact va_eqt (t := .elem (.field (.string "ClickStreet$Reader" 50) "java/lang/String" "value" "[B") (.int (1 : Int32))) (z := 108) (hs _ (by decide +kernel))
    | 2, _ => exact va_eqt (t := .elem (.field (.string "ClickStreet$Reader" 50) "java/lang/String" "value" "[B") (.int (2 : Int32))) (z := 114) (hs _ (by decide +kernel))
    | 3, _ => exact va_eqt (t := .elem (.field (.string "ClickStreet$Reader" 50) "java/lang/String" "value" "[B") (.int (3 : Int32))) (z := 98) (hs _ (by decide +kernel))
    | 4, _ => exact va_eqt (t := .elem (.field (.string "ClickStreet$Reader" 50) "java/lang/String" "value" "[B") (.int (4 : Int32))) (z := 116) (hs _ (by decide +kernel))
    | j + 5, h => exact absurd h (by omega)) (fun a h => Nat.not_le.mpr h)
  exact ⟨a, t, fun q hq => by cases hq; exact vk_R.of (hts _ (ns_in _ (by decide))) q1, va_Oof hex q1 (fun a h => Nat.not_le.mpr h), vk_OFof q1 (va_eqt (z := 0) (hs _ (by decide +kernel))) (fun a h => Nat.not_le.mpr h), vk_OFof q1 h1 (fun a h => Nat.not_le.mpr h), h2⟩
theorem str_4 {s : State} {args : Array Value} (hts : ∀ w ∈ lw_tbl, w.before args s = true) (hgv : (Jvm.Cond.and given_1 narrow_1).before args s = true) : ∃ a t : Nat, (∀ q : String × Nat × String, NSs[4]? = some q → vk_R q.1 q.2.1 q.2.2 a s) ∧ va_O "java/lang/String" a (fun q => s.heap.size ≤ q) s s.heap ∧ va_OF "java/lang/String" "coder" "B" (.int 0) a (fun q => s.heap.size ≤ q) s s.heap ∧ va_OF "java/lang/String" "value" "[B" (.ref t) a (fun q => s.heap.size ≤ q) s s.heap ∧ va_T .byte t 4 (fun j => .int (([108, 111, 121, 112] : List Int32).getD j 0)) (fun q => s.heap.size ≤ q) s s.heap := by
  have hs := flat_of_before _ hgv
  have hex : (Cond.exactly (.string "ClickStreetModel" 34) "java/lang/String").before args s = true := hs _ (by decide +kernel)
  obtain ⟨a, c, cA, kA, q1, -⟩ := Cond.exactly_spec (args := args) (first := s) (o := none) (s := s) (idx := []) (t := .string "ClickStreetModel" 34) (cls := "java/lang/String") hex
  obtain ⟨t, h1, h2⟩ := va_Tof (A := (fun q => s.heap.size ≤ q)) (tm := .field (.string "ClickStreetModel" 34) "java/lang/String" "value" "[B") (ty := .byte) (N := 4) (f := fun j => .int (([108, 111, 121, 112] : List Int32).getD j 0)) (by decide) (hs _ (by decide +kernel)) (va_eqt (z := 4) (hs _ (by decide +kernel))) (fun j hj => by
    match j, hj with
    | 0, _ => exact va_eqt (t := .elem (.field (.string "ClickStreetModel" 34) "java/lang/String" "value" "[B") (.int (0 : Int32))) (z := 108) (hs _ (by decide +kernel))
    | 1, _ => exact va_eqt (t := .elem (.field (.string "ClickStreetModel" 34) "java/lang/String" "value" "[B") (.int (1 : Int32))) (z := 111) (hs _ (by decide +kernel))
    | 2, _ => exact va_eqt (t := .elem (.field (.string "ClickStreetModel" 34) "java/lang/String" "value" "[B") (.int (2 : Int32))) (z := 121) (hs _ (by decide +kernel))
    | 3, _ => exact va_eqt (t := .elem (.field (.string "ClickStreetModel" 34) "java/lang/String" "value" "[B") (.int (3 : Int32))) (z := 112) (hs _ (by decide +kernel))
    | j + 4, h => exact absurd h (by omega)) (fun a h => Nat.not_le.mpr h)
  exact ⟨a, t, fun q hq => by cases hq; exact vk_R.of (hts _ (ns_in _ (by decide))) q1, va_Oof hex q1 (fun a h => Nat.not_le.mpr h), vk_OFof q1 (va_eqt (z := 0) (hs _ (by decide +kernel))) (fun a h => Nat.not_le.mpr h), vk_OFof q1 h1 (fun a h => Nat.not_le.mpr h), h2⟩
theorem str_5 {s : State} {args : Array Value} (hts : ∀ w ∈ lw_tbl, w.before args s = true) (hgv : (Jvm.Cond.and given_1 narrow_1).before args s = true) : ∃ a t : Nat, (∀ q : String × Nat × String, NSs[5]? = some q → vk_R q.1 q.2.1 q.2.2 a s) ∧ va_O "java/lang/String" a (fun q => s.heap.size ≤ q) s s.heap ∧ va_OF "java/lang/String" "coder" "B" (.int 0) a (fun q => s.heap.size ≤ q) s s.heap ∧ va_OF "java/lang/String" "value" "[B" (.ref t) a (fun q => s.heap.size ≤ q) s s.heap ∧ va_T .byte t 3 (fun j => .int (([115, 110, 116] : List Int32).getD j 0)) (fun q => s.heap.size ≤ q) s s.heap := by
  have hs := flat_of_before _ hgv
  have hex : (Cond.exactly (.string "ClickStreetModel" 36) "java/lang/String").before args s = true := hs _ (by decide +kernel)
  obtain ⟨a, c, cA, kA, q1, -⟩ := Cond.exactly_spec (args := args) (first := s) (o := none) (s := s) (idx := []) (t := .string "ClickStreetModel" 36) (cls := "java/lang/String") hex
  obtain ⟨t, h1, h2⟩ := va_Tof (A := (fun q => s.heap.size ≤ q)) (tm := .field (.string "ClickStreetModel" 36) "java/lang/String" "value" "[B") (ty := .byte) (N := 3) (f := fun j => .int (([115, 110, 116] : List Int32).getD j 0)) (by decide) (hs _ (by decide +kernel)) (va_eqt (z := 3) (hs _ (by decide +kernel))) (fun j hj => by
    match j, hj with
    | 0, _ => exact va_eqt (t := .elem (.field (.string "ClickStreetModel" 36) "java/lang/String" "value" "[B") (.int (0 : Int32))) (z := 115) (hs _ (by decide +kernel))
    | 1, _ => exact va_eqt (t := .elem (.field (.string "ClickStreetModel" 36) "java/lang/String" "value" "[B") (.int (1 : Int32))) (z := 110) (hs _ (by decide +kernel))
    | 2, _ => exact va_eqt (t := .elem (.field (.string "ClickStreetModel" 36) "java/lang/String" "value" "[B") (.int (2 : Int32))) (z := 116) (hs _ (by decide +kernel))
    | j + 3, h => exact absurd h (by omega)) (fun a h => Nat.not_le.mpr h)
  exact ⟨a, t, fun q hq => by cases hq; exact vk_R.of (hts _ (ns_in _ (by decide))) q1, va_Oof hex q1 (fun a h => Nat.not_le.mpr h), vk_OFof q1 (va_eqt (z := 0) (hs _ (by decide +kernel))) (fun a h => Nat.not_le.mpr h), vk_OFof q1 h1 (fun a h => Nat.not_le.mpr h), h2⟩
theorem str_6 {s : State} {args : Array Value} (hts : ∀ w ∈ lw_tbl, w.before args s = true) (hgv : (Jvm.Cond.and given_1 narrow_1).before args s = true) : ∃ a t : Nat, (∀ q : String × Nat × String, NSs[6]? = some q → vk_R q.1 q.2.1 q.2.2 a s) ∧ va_O "java/lang/String" a (fun q => s.heap.size ≤ q) s s.heap ∧ va_OF "java/lang/String" "coder" "B" (.int 0) a (fun q => s.heap.size ≤ q) s s.heap ∧ va_OF "java/lang/String" "value" "[B" (.ref t) a (fun q => s.heap.size ≤ q) s s.heap ∧ va_T .byte t 5 (fun j => .int (([102, 108, 114, 98, 116] : List Int32).getD j 0)) (fun q => s.heap.size ≤ q) s s.heap := by
  have hs := flat_of_before _ hgv
  have hex : (Cond.exactly (.string "ClickStreetModel" 38) "java/lang/String").before args s = true := hs _ (by decide +kernel)
  obtain ⟨a, c, cA, kA, q1, -⟩ := Cond.exactly_spec (args := args) (first := s) (o := none) (s := s) (idx := []) (t := .string "ClickStreetModel" 38) (cls := "java/lang/String") hex
  obtain ⟨t, h1, h2⟩ := va_Tof (A := (fun q => s.heap.size ≤ q)) (tm := .field (.string "ClickStreetModel" 38) "java/lang/String" "value" "[B") (ty := .byte) (N := 5) (f := fun j => .int (([102, 108, 114, 98, 116] : List Int32).getD j 0)) (by decide) (hs _ (by decide +kernel)) (va_eqt (z := 5) (hs _ (by decide +kernel))) (fun j hj => by
    match j, hj with
    | 0, _ => exact va_eqt (t := .elem (.field (.string "ClickStreetModel" 38) "java/lang/String" "value" "[B") (.int (0 : Int32))) (z := 102) (hs _ (by decide +kernel))
    | 1, _ => exact va_eqt (t := .elem (.field (.string "ClickStreetModel" 38) "java/lang/String" "value" "[B") (.int (1 : Int32))) (z := 108) (hs _ (by decide +kernel))
    | 2, _ => exact va_eqt (t := .elem (.field (.string "ClickStreetModel" 38) "java/lang/String" "value" "[B") (.int (2 : Int32))) (z := 114) (hs _ (by decide +kernel))
    | 3, _ => exact va_eqt (t := .elem (.field (.string "ClickStreetModel" 38) "java/lang/String" "value" "[B") (.int (3 : Int32))) (z := 98) (hs _ (by decide +kernel))
    | 4, _ => exact va_eqt (t := .elem (.field (.string "ClickStreetModel" 38) "java/lang/String" "value" "[B") (.int (4 : Int32))) (z := 116) (hs _ (by decide +kernel))
    | j + 5, h => exact absurd h (by omega)) (fun a h => Nat.not_le.mpr h)
  exact ⟨a, t, fun q hq => by cases hq; exact vk_R.of (hts _ (ns_in _ (by decide))) q1, va_Oof hex q1 (fun a h => Nat.not_le.mpr h), vk_OFof q1 (va_eqt (z := 0) (hs _ (by decide +kernel))) (fun a h => Nat.not_le.mpr h), vk_OFof q1 h1 (fun a h => Nat.not_le.mpr h), h2⟩
theorem sta_0 {s : State} {args : Array Value} (hts : ∀ w ∈ lw_tbl, w.before args s = true) (hgv : (Jvm.Cond.and given_1 narrow_1).before args s = true) : ∃ t : Nat, va_Z RX9 "REACHES" "[I" (.ref t) (fun q => s.heap.size ≤ q) s s.heap ∧ va_T .int t 8 (fun j => .int (([3, 12, 1, 6, 0, 6, 5, 10] : List Int32).getD j 0)) (fun q => s.heap.size ≤ q) s s.heap := by
  have hs := flat_of_before _ hgv
  obtain ⟨t, h1, h2⟩ := va_Tof (A := (fun q => s.heap.size ≤ q)) (tm := .static "ClickStreet$Walker" "REACHES" "[I") (ty := .int) (N := 8) (f := fun j => .int (([3, 12, 1, 6, 0, 6, 5, 10] : List Int32).getD j 0)) (by decide) (hs _ (by decide +kernel)) (va_eqt (z := 8) (hs _ (by decide +kernel))) (fun j hj => by
    match j, hj with
    | 0, _ => exact va_eqt (t := .elem (.static "ClickStreet$Walker" "REACHES" "[I") (.int (0 : Int32))) (z := 3) (hs _ (by decide +kernel))
    | 1, _ => exact va_eqt (t := .elem (.static "ClickStreet$Walker" "REACHES" "[I") (.int (1 : Int32))) (z := 12) (hs _ (by decide +kernel))
    | 2, _ => exact va_eqt (t := .elem (.static "ClickStreet$Walker" "REACHES" "[I") (.int (2 : Int32))) (z := 1) (hs _ (by decide +kernel))
    | 3, _ => exact va_eqt (t := .elem (.static "ClickStreet$Walker" "REACHES" "[I") (.int (3 : Int32))) (z := 6) (hs _ (by decide +kernel))
    | 4, _ => exact va_eqt (t := .elem (.static "ClickStreet$Walker" "REACHES" "[I") (.int (4 : Int32))) (z := 0) (hs _ (by decide +kernel))
    | 5, _ => exact va_eqt (t := .elem (.static "ClickStreet$Walker" "REACHES" "[I") (.int (5 : Int32))) (z := 6) (hs _ (by decide +kernel))
    | 6, _ => exact va_eqt (t := .elem (.static "ClickStreet$Walker" "REACHES" "[I") (.int (6 : Int32))) (z := 5) (hs _ (by decide +kernel))
    | 7, _ => exact va_eqt (t := .elem (.static "ClickStreet$Walker" "REACHES" "[I") (.int (7 : Int32))) (z := 10) (hs _ (by decide +kernel))
    | j + 8, h => exact absurd h (by omega)) (fun a h => Nat.not_le.mpr h)
  exact ⟨t, va_Zref (hts (Cond.laysStatic RX9 "REACHES" "[I") (List.mem_of_getElem? (l := lw_tbl) (i := 622) (by decide +kernel))) (hts _ (List.mem_filter.mp m_87).1) h1 (fun a h => Nat.not_le.mpr h), h2⟩
theorem sta_1 {s : State} {args : Array Value} (hts : ∀ w ∈ lw_tbl, w.before args s = true) (hgv : (Jvm.Cond.and given_1 narrow_1).before args s = true) : ∃ t : Nat, va_Z RX9 "SPEEDS" "[I" (.ref t) (fun q => s.heap.size ≤ q) s s.heap ∧ va_T .int t 8 (fun j => .int (([1, 1, 1, 1, 1, 1, 1, 2] : List Int32).getD j 0)) (fun q => s.heap.size ≤ q) s s.heap := by
  have hs := flat_of_before _ hgv
  obtain ⟨t, h1, h2⟩ := va_Tof (A := (fun q => s.heap.size ≤ q)) (tm := .static "ClickStreet$Walker" "SPEEDS" "[I") (ty := .int) (N := 8) (f := fun j => .int (([1, 1, 1, 1, 1, 1, 1, 2] : List Int32).getD j 0)) (by decide) (hs _ (by decide +kernel)) (va_eqt (z := 8) (hs _ (by decide +kernel))) (fun j hj => by
    match j, hj with
    | 0, _ => exact va_eqt (t := .elem (.static "ClickStreet$Walker" "SPEEDS" "[I") (.int (0 : Int32))) (z := 1) (hs _ (by decide +kernel))
    | 1, _ => exact va_eqt (t := .elem (.static "ClickStreet$Walker" "SPEEDS" "[I") (.int (1 : Int32))) (z := 1) (hs _ (by decide +kernel))
    | 2, _ => exact va_eqt (t := .elem (.static "ClickStreet$Walker" "SPEEDS" "[I") (.int (2 : Int32))) (z := 1) (hs _ (by decide +kernel))
    | 3, _ => exact va_eqt (t := .elem (.static "ClickStreet$Walker" "SPEEDS" "[I") (.int (3 : Int32))) (z := 1) (hs _ (by decide +kernel))
    | 4, _ => exact va_eqt (t := .elem (.static "ClickStreet$Walker" "SPEEDS" "[I") (.int (4 : Int32))) (z := 1) (hs _ (by decide +kernel))
    | 5, _ => exact va_eqt (t := .elem (.static "ClickStreet$Walker" "SPEEDS" "[I") (.int (5 : Int32))) (z := 1) (hs _ (by decide +kernel))
    | 6, _ => exact va_eqt (t := .elem (.static "ClickStreet$Walker" "SPEEDS" "[I") (.int (6 : Int32))) (z := 1) (hs _ (by decide +kernel))
    | 7, _ => exact va_eqt (t := .elem (.static "ClickStreet$Walker" "SPEEDS" "[I") (.int (7 : Int32))) (z := 2) (hs _ (by decide +kernel))
    | j + 8, h => exact absurd h (by omega)) (fun a h => Nat.not_le.mpr h)
  exact ⟨t, va_Zref (hts (Cond.laysStatic RX9 "SPEEDS" "[I") (List.mem_of_getElem? (l := lw_tbl) (i := 628) (by decide +kernel))) (hts _ (List.mem_filter.mp m_87).1) h1 (fun a h => Nat.not_le.mpr h), h2⟩
theorem sta_2 {s : State} {args : Array Value} (hts : ∀ w ∈ lw_tbl, w.before args s = true) (hgv : (Jvm.Cond.and given_1 narrow_1).before args s = true) : ∃ t : Nat, va_Z RX9 "HEARS_TO" "[I" (.ref t) (fun q => s.heap.size ≤ q) s s.heap ∧ va_T .int t 8 (fun j => .int (([9, 9, 9, 9, 9, 9, 5, 9] : List Int32).getD j 0)) (fun q => s.heap.size ≤ q) s s.heap := by
  have hs := flat_of_before _ hgv
  obtain ⟨t, h1, h2⟩ := va_Tof (A := (fun q => s.heap.size ≤ q)) (tm := .static "ClickStreet$Walker" "HEARS_TO" "[I") (ty := .int) (N := 8) (f := fun j => .int (([9, 9, 9, 9, 9, 9, 5, 9] : List Int32).getD j 0)) (by decide) (hs _ (by decide +kernel)) (va_eqt (z := 8) (hs _ (by decide +kernel))) (fun j hj => by
    match j, hj with
    | 0, _ => exact va_eqt (t := .elem (.static "ClickStreet$Walker" "HEARS_TO" "[I") (.int (0 : Int32))) (z := 9) (hs _ (by decide +kernel))
    | 1, _ => exact va_eqt (t := .elem (.static "ClickStreet$Walker" "HEARS_TO" "[I") (.int (1 : Int32))) (z := 9) (hs _ (by decide +kernel))
    | 2, _ => exact va_eqt (t := .elem (.static "ClickStreet$Walker" "HEARS_TO" "[I") (.int (2 : Int32))) (z := 9) (hs _ (by decide +kernel))
    | 3, _ => exact va_eqt (t := .elem (.static "ClickStreet$Walker" "HEARS_TO" "[I") (.int (3 : Int32))) (z := 9) (hs _ (by decide +kernel))
    | 4, _ => exact va_eqt (t := .elem (.static "ClickStreet$Walker" "HEARS_TO" "[I") (.int (4 : Int32))) (z := 9) (hs _ (by decide +kernel))
    | 5, _ => exact va_eqt (t := .elem (.static "ClickStreet$Walker" "HEARS_TO" "[I") (.int (5 : Int32))) (z := 9) (hs _ (by decide +kernel))
    | 6, _ => exact va_eqt (t := .elem (.static "ClickStreet$Walker" "HEARS_TO" "[I") (.int (6 : Int32))) (z := 5) (hs _ (by decide +kernel))
    | 7, _ => exact va_eqt (t := .elem (.static "ClickStreet$Walker" "HEARS_TO" "[I") (.int (7 : Int32))) (z := 9) (hs _ (by decide +kernel))
    | j + 8, h => exact absurd h (by omega)) (fun a h => Nat.not_le.mpr h)
  exact ⟨t, va_Zref (hts (Cond.laysStatic RX9 "HEARS_TO" "[I") (List.mem_of_getElem? (l := lw_tbl) (i := 634) (by decide +kernel))) (hts _ (List.mem_filter.mp m_87).1) h1 (fun a h => Nat.not_le.mpr h), h2⟩
theorem sta_3 {s : State} {args : Array Value} (hts : ∀ w ∈ lw_tbl, w.before args s = true) (hgv : (Jvm.Cond.and given_1 narrow_1).before args s = true) : ∃ t : Nat, va_Z RX9 "ABOVE" "[I" (.ref t) (fun q => s.heap.size ≤ q) s s.heap ∧ va_T .int t 8 (fun j => .int (([-1, 0, 0, 0, 0, 1, 3, 1] : List Int32).getD j 0)) (fun q => s.heap.size ≤ q) s s.heap := by
  have hs := flat_of_before _ hgv
  obtain ⟨t, h1, h2⟩ := va_Tof (A := (fun q => s.heap.size ≤ q)) (tm := .static "ClickStreet$Walker" "ABOVE" "[I") (ty := .int) (N := 8) (f := fun j => .int (([-1, 0, 0, 0, 0, 1, 3, 1] : List Int32).getD j 0)) (by decide) (hs _ (by decide +kernel)) (va_eqt (z := 8) (hs _ (by decide +kernel))) (fun j hj => by
    match j, hj with
    | 0, _ => exact va_eqt (t := .elem (.static "ClickStreet$Walker" "ABOVE" "[I") (.int (0 : Int32))) (z := (-1)) (hs _ (by decide +kernel))
    | 1, _ => exact va_eqt (t := .elem (.static "ClickStreet$Walker" "ABOVE" "[I") (.int (1 : Int32))) (z := 0) (hs _ (by decide +kernel))
    | 2, _ => exact va_eqt (t := .elem (.static "ClickStreet$Walker" "ABOVE" "[I") (.int (2 : Int32))) (z := 0) (hs _ (by decide +kernel))
    | 3, _ => exact va_eqt (t := .elem (.static "ClickStreet$Walker" "ABOVE" "[I") (.int (3 : Int32))) (z := 0) (hs _ (by decide +kernel))
    | 4, _ => exact va_eqt (t := .elem (.static "ClickStreet$Walker" "ABOVE" "[I") (.int (4 : Int32))) (z := 0) (hs _ (by decide +kernel))
    | 5, _ => exact va_eqt (t := .elem (.static "ClickStreet$Walker" "ABOVE" "[I") (.int (5 : Int32))) (z := 1) (hs _ (by decide +kernel))
    | 6, _ => exact va_eqt (t := .elem (.static "ClickStreet$Walker" "ABOVE" "[I") (.int (6 : Int32))) (z := 3) (hs _ (by decide +kernel))
    | 7, _ => exact va_eqt (t := .elem (.static "ClickStreet$Walker" "ABOVE" "[I") (.int (7 : Int32))) (z := 1) (hs _ (by decide +kernel))
    | j + 8, h => exact absurd h (by omega)) (fun a h => Nat.not_le.mpr h)
  exact ⟨t, va_Zref (hts (Cond.laysStatic RX9 "ABOVE" "[I") (List.mem_of_getElem? (l := lw_tbl) (i := 647) (by decide +kernel))) (hts _ (List.mem_filter.mp m_87).1) h1 (fun a h => Nat.not_le.mpr h), h2⟩
theorem sta_4 {s : State} {args : Array Value} (hts : ∀ w ∈ lw_tbl, w.before args s = true) (hgv : (Jvm.Cond.and given_1 narrow_1).before args s = true) : ∃ t : Nat, va_Z RX7 "EAST" "[I" (.ref t) (fun q => s.heap.size ≤ q) s s.heap ∧ va_T .int t 8 (fun j => .int (([0, 1, 1, 1, 0, -1, -1, -1] : List Int32).getD j 0)) (fun q => s.heap.size ≤ q) s s.heap := by
  have hs := flat_of_before _ hgv
  obtain ⟨t, h1, h2⟩ := va_Tof (A := (fun q => s.heap.size ≤ q)) (tm := .static "ClickStreet$Street" "EAST" "[I") (ty := .int) (N := 8) (f := fun j => .int (([0, 1, 1, 1, 0, -1, -1, -1] : List Int32).getD j 0)) (by decide) (hs _ (by decide +kernel)) (va_eqt (z := 8) (hs _ (by decide +kernel))) (fun j hj => by
    match j, hj with
    | 0, _ => exact va_eqt (t := .elem (.static "ClickStreet$Street" "EAST" "[I") (.int (0 : Int32))) (z := 0) (hs _ (by decide +kernel))
    | 1, _ => exact va_eqt (t := .elem (.static "ClickStreet$Street" "EAST" "[I") (.int (1 : Int32))) (z := 1) (hs _ (by decide +kernel))
    | 2, _ => exact va_eqt (t := .elem (.static "ClickStreet$Street" "EAST" "[I") (.int (2 : Int32))) (z := 1) (hs _ (by decide +kernel))
    | 3, _ => exact va_eqt (t := .elem (.static "ClickStreet$Street" "EAST" "[I") (.int (3 : Int32))) (z := 1) (hs _ (by decide +kernel))
    | 4, _ => exact va_eqt (t := .elem (.static "ClickStreet$Street" "EAST" "[I") (.int (4 : Int32))) (z := 0) (hs _ (by decide +kernel))
    | 5, _ => exact va_eqt (t := .elem (.static "ClickStreet$Street" "EAST" "[I") (.int (5 : Int32))) (z := (-1)) (hs _ (by decide +kernel))
    | 6, _ => exact va_eqt (t := .elem (.static "ClickStreet$Street" "EAST" "[I") (.int (6 : Int32))) (z := (-1)) (hs _ (by decide +kernel))
    | 7, _ => exact va_eqt (t := .elem (.static "ClickStreet$Street" "EAST" "[I") (.int (7 : Int32))) (z := (-1)) (hs _ (by decide +kernel))
    | j + 8, h => exact absurd h (by omega)) (fun a h => Nat.not_le.mpr h)
  exact ⟨t, va_Zref (hts (Cond.laysStatic RX7 "EAST" "[I") (List.mem_of_getElem? (l := lw_tbl) (i := 854) (by decide +kernel))) (hts _ (List.mem_filter.mp m_81).1) h1 (fun a h => Nat.not_le.mpr h), h2⟩
theorem sta_5 {s : State} {args : Array Value} (hts : ∀ w ∈ lw_tbl, w.before args s = true) (hgv : (Jvm.Cond.and given_1 narrow_1).before args s = true) : ∃ t : Nat, va_Z RX7 "SOUTH" "[I" (.ref t) (fun q => s.heap.size ≤ q) s s.heap ∧ va_T .int t 8 (fun j => .int (([-1, -1, 0, 1, 1, 1, 0, -1] : List Int32).getD j 0)) (fun q => s.heap.size ≤ q) s s.heap := by
  have hs := flat_of_before _ hgv
  obtain ⟨t, h1, h2⟩ := va_Tof (A := (fun q => s.heap.size ≤ q)) (tm := .static "ClickStreet$Street" "SOUTH" "[I") (ty := .int) (N := 8) (f := fun j => .int (([-1, -1, 0, 1, 1, 1, 0, -1] : List Int32).getD j 0)) (by decide) (hs _ (by decide +kernel)) (va_eqt (z := 8) (hs _ (by decide +kernel))) (fun j hj => by
    match j, hj with
    | 0, _ => exact va_eqt (t := .elem (.static "ClickStreet$Street" "SOUTH" "[I") (.int (0 : Int32))) (z := (-1)) (hs _ (by decide +kernel))
    | 1, _ => exact va_eqt (t := .elem (.static "ClickStreet$Street" "SOUTH" "[I") (.int (1 : Int32))) (z := (-1)) (hs _ (by decide +kernel))
    | 2, _ => exact va_eqt (t := .elem (.static "ClickStreet$Street" "SOUTH" "[I") (.int (2 : Int32))) (z := 0) (hs _ (by decide +kernel))
    | 3, _ => exact va_eqt (t := .elem (.static "ClickStreet$Street" "SOUTH" "[I") (.int (3 : Int32))) (z := 1) (hs _ (by decide +kernel))
    | 4, _ => exact va_eqt (t := .elem (.static "ClickStreet$Street" "SOUTH" "[I") (.int (4 : Int32))) (z := 1) (hs _ (by decide +kernel))
    | 5, _ => exact va_eqt (t := .elem (.static "ClickStreet$Street" "SOUTH" "[I") (.int (5 : Int32))) (z := 1) (hs _ (by decide +kernel))
    | 6, _ => exact va_eqt (t := .elem (.static "ClickStreet$Street" "SOUTH" "[I") (.int (6 : Int32))) (z := 0) (hs _ (by decide +kernel))
    | 7, _ => exact va_eqt (t := .elem (.static "ClickStreet$Street" "SOUTH" "[I") (.int (7 : Int32))) (z := (-1)) (hs _ (by decide +kernel))
    | j + 8, h => exact absurd h (by omega)) (fun a h => Nat.not_le.mpr h)
  exact ⟨t, va_Zref (hts (Cond.laysStatic RX7 "SOUTH" "[I") (List.mem_of_getElem? (l := lw_tbl) (i := 856) (by decide +kernel))) (hts _ (List.mem_filter.mp m_81).1) h1 (fun a h => Nat.not_le.mpr h), h2⟩
theorem sta_6 {s : State} {args : Array Value} (hts : ∀ w ∈ lw_tbl, w.before args s = true) (hgv : (Jvm.Cond.and given_1 narrow_1).before args s = true) : ∃ t : Nat, va_Z RX8 "BODIES" "[I" (.ref t) (fun q => s.heap.size ≤ q) s s.heap ∧ va_T .int t 32 (fun j => .int (([10, 11, 12, 13, 20, 0, 0, 21, 0, 30, 0, 0, 40, 0, 41, 0, 0, 0, 50, 0, 0, 60, 0, 0, 0, 70, 71, 0, 0, 0, 0, 80] : List Int32).getD j 0)) (fun q => s.heap.size ≤ q) s s.heap := by
  have hs := flat_of_before _ hgv
  obtain ⟨t, h1, h2⟩ := va_Tof (A := (fun q => s.heap.size ≤ q)) (tm := .static "ClickStreet$Voices" "BODIES" "[I") (ty := .int) (N := 32) (f := fun j => .int (([10, 11, 12, 13, 20, 0, 0, 21, 0, 30, 0, 0, 40, 0, 41, 0, 0, 0, 50, 0, 0, 60, 0, 0, 0, 70, 71, 0, 0, 0, 0, 80] : List Int32).getD j 0)) (by decide) (hs _ (by decide +kernel)) (va_eqt (z := 32) (hs _ (by decide +kernel))) (fun j hj => by
    match j, hj with
    | 0, _ => exact va_eqt (t := .elem (.static "ClickStreet$Voices" "BODIES" "[I") (.int (0 : Int32))) (z := 10) (hs _ (by decide +kernel))
    | 1, _ => exact va_eqt (t := .elem (.static "ClickStreet$Voices" "BODIES" "[I") (.int (1 : Int32))) (z := 11) (hs _ (by decide +kernel))
    | 2, _ => exact va_eqt (t := .elem (.static "ClickStreet$Voices" "BODIES" "[I") (.int (2 : Int32))) (z := 12) (hs _ (by decide +kernel))
    | 3, _ => exact va_eqt (t := .elem (.static "ClickStreet$Voices" "BODIES" "[I") (.int (3 : Int32))) (z := 13) (hs _ (by decide +kernel))
    | 4, _ => exact va_eqt (t := .elem (.static "ClickStreet$Voices" "BODIES" "[I") (.int (4 : Int32))) (z := 20) (hs _ (by decide +kernel))
    | 5, _ => exact va_eqt (t := .elem (.static "ClickStreet$Voices" "BODIES" "[I") (.int (5 : Int32))) (z := 0) (hs _ (by decide +kernel))
    | 6, _ => exact va_eqt (t := .elem (.static "ClickStreet$Voices" "BODIES" "[I") (.int (6 : Int32))) (z := 0) (hs _ (by decide +kernel))
    | 7, _ => exact va_eqt (t := .elem (.static "ClickStreet$Voices" "BODIES" "[I") (.int (7 : Int32))) (z := 21) (hs _ (by decide +kernel))
    | 8, _ => exact va_eqt (t := .elem (.static "ClickStreet$Voices" "BODIES" "[I") (.int (8 : Int32))) (z := 0) (hs _ (by decide +kernel))
    | 9, _ => exact va_eqt (t := .elem (.static "ClickStreet$Voices" "BODIES" "[I") (.int (9 : Int32))) (z := 30) (hs _ (by decide +kernel))
    | 10, _ => exact va_eqt (t := .elem (.static "ClickStreet$Voices" "BODIES" "[I") (.int (10 : Int32))) (z := 0) (hs _ (by decide +kernel))
    | 11, _ => exact va_eqt (t := .elem (.static "ClickStreet$Voices" "BODIES" "[I") (.int (11 : Int32))) (z := 0) (hs _ (by decide +kernel))
    | 12, _ => exact va_eqt (t := .elem (.static "ClickStreet$Voices" "BODIES" "[I") (.int (12 : Int32))) (z := 40) (hs _ (by decide +kernel))
    | 13, _ => exact va_eqt (t := .elem (.static "ClickStreet$Voices" "BODIES" "[I") (.int (13 : Int32))) (z := 0) (hs _ (by decide +kernel))
    | 14, _ => exact va_eqt (t := .elem (.static "ClickStreet$Voices" "BODIES" "[I") (.int (14 : Int32))) (z := 41) (hs _ (by decide +kernel))
    | 15, _ => exact va_eqt (t := .elem (.static "ClickStreet$Voices" "BODIES" "[I") (.int (15 : Int32))) (z := 0) (hs _ (by decide +kernel))
    | 16, _ => exact va_eqt (t := .elem (.static "ClickStreet$Voices" "BODIES" "[I") (.int (16 : Int32))) (z := 0) (hs _ (by decide +kernel))
    | 17, _ => exact va_eqt (t := .elem (.static "ClickStreet$Voices" "BODIES" "[I") (.int (17 : Int32))) (z := 0) (hs _ (by decide +kernel))
    | 18, _ => exact va_eqt (t := .elem (.static "ClickStreet$Voices" "BODIES" "[I") (.int (18 : Int32))) (z := 50) (hs _ (by decide +kernel))
    | 19, _ => exact va_eqt (t := .elem (.static "ClickStreet$Voices" "BODIES" "[I") (.int (19 : Int32))) (z := 0) (hs _ (by decide +kernel))
    | 20, _ => exact va_eqt (t := .elem (.static "ClickStreet$Voices" "BODIES" "[I") (.int (20 : Int32))) (z := 0) (hs _ (by decide +kernel))
    | 21, _ => exact va_eqt (t := .elem (.static "ClickStreet$Voices" "BODIES" "[I") (.int (21 : Int32))) (z := 60) (hs _ (by decide +kernel))
    | 22, _ => exact va_eqt (t := .elem (.static "ClickStreet$Voices" "BODIES" "[I") (.int (22 : Int32))) (z := 0) (hs _ (by decide +kernel))
    | 23, _ => exact va_eqt (t := .elem (.static "ClickStreet$Voices" "BODIES" "[I") (.int (23 : Int32))) (z := 0) (hs _ (by decide +kernel))
    | 24, _ => exact va_eqt (t := .elem (.static "ClickStreet$Voices" "BODIES" "[I") (.int (24 : Int32))) (z := 0) (hs _ (by decide +kernel))
    | 25, _ => exact va_eqt (t := .elem (.static "ClickStreet$Voices" "BODIES" "[I") (.int (25 : Int32))) (z := 70) (hs _ (by decide +kernel))
    | 26, _ => exact va_eqt (t := .elem (.static "ClickStreet$Voices" "BODIES" "[I") (.int (26 : Int32))) (z := 71) (hs _ (by decide +kernel))
    | 27, _ => exact va_eqt (t := .elem (.static "ClickStreet$Voices" "BODIES" "[I") (.int (27 : Int32))) (z := 0) (hs _ (by decide +kernel))
    | 28, _ => exact va_eqt (t := .elem (.static "ClickStreet$Voices" "BODIES" "[I") (.int (28 : Int32))) (z := 0) (hs _ (by decide +kernel))
    | 29, _ => exact va_eqt (t := .elem (.static "ClickStreet$Voices" "BODIES" "[I") (.int (29 : Int32))) (z := 0) (hs _ (by decide +kernel))
    | 30, _ => exact va_eqt (t := .elem (.static "ClickStreet$Voices" "BODIES" "[I") (.int (30 : Int32))) (z := 0) (hs _ (by decide +kernel))
    | 31, _ => exact va_eqt (t := .elem (.static "ClickStreet$Voices" "BODIES" "[I") (.int (31 : Int32))) (z := 80) (hs _ (by decide +kernel))
    | j + 32, h => exact absurd h (by omega)) (fun a h => Nat.not_le.mpr h)
  exact ⟨t, va_Zref (hts (Cond.laysStatic RX8 "BODIES" "[I") (List.mem_of_getElem? (l := lw_tbl) (i := 1190) (by decide +kernel))) (hts _ (List.mem_filter.mp m_90).1) h1 (fun a h => Nat.not_le.mpr h), h2⟩
theorem env_of {s : State} {args : Array Value} (hts : ∀ w ∈ lw_tbl, w.before args s = true) (hgv : (Jvm.Cond.and given_1 narrow_1).before args s = true) : ∃ (G : va_G) (cy : Nat → ClassId) (sk sa : Nat → Nat), EN G cy sk s ∧ STAT sa sk (fun q => s.heap.size ≤ q) s s.heap := by
  have htB : ∀ w ∈ BASE, w.before args s = true := fun w h => hts w (List.mem_filter.mp h).1
  have hAO : ∀ C ∈ AOs, (Cond.arrayOver (.object C)).before args s = true := fun C hC => hts _ (ao_in C hC)
  have hs := flat_of_before _ hgv
  obtain ⟨D, hD⟩ := Classical.axiomOfChoice (known_all htB)
  obtain ⟨cy, hcy⟩ := Classical.axiomOfChoice (arr_all htB hAO)
  obtain ⟨a0, t0, r0, o0, f0, g0, v0⟩ := str_0 hts hgv
  obtain ⟨a1, t1, r1, o1, f1, g1, v1⟩ := str_1 hts hgv
  obtain ⟨a2, t2, r2, o2, f2, g2, v2⟩ := str_2 hts hgv
  obtain ⟨a3, t3, r3, o3, f3, g3, v3⟩ := str_3 hts hgv
  obtain ⟨a4, t4, r4, o4, f4, g4, v4⟩ := str_4 hts hgv
  obtain ⟨a5, t5, r5, o5, f5, g5, v5⟩ := str_5 hts hgv
  obtain ⟨a6, t6, r6, o6, f6, g6, v6⟩ := str_6 hts hgv
  obtain ⟨u0, z0, w0⟩ := sta_0 hts hgv
  obtain ⟨u1, z1, w1⟩ := sta_1 hts hgv
  obtain ⟨u2, z2, w2⟩ := sta_2 hts hgv
  obtain ⟨u3, z3, w3⟩ := sta_3 hts hgv
  obtain ⟨u4, z4, w4⟩ := sta_4 hts hgv
  obtain ⟨u5, z5, w5⟩ := sta_5 hts hgv
  obtain ⟨u6, z6, w6⟩ := sta_6 hts hgv
  refine ⟨(fun k => (D k).1, fun k => (D k).2), cy, (fun k => ([a0, a1, a2, a3, a4, a5, a6] : List Nat).getD k 0), (fun k => ([u0, u1, u2, u3, u4, u5, u6, 0, 0, 0, t0, t1, t2, t3, t4, t5, t6] : List Nat).getD k 0), ⟨⟨fun c q hq => hD c q hq, fun k q hq => ?_⟩, fun q hq => va_Nw.of rfl (hts _ (nf_in q hq)), fun q hq => va_Nw.of rfl (hts _ (nm_in q hq)), fun k q hq => ?_, fun C hC => va_AO.of (hAO C hC)⟩, ⟨fun k q hq => ?_, va_Zof (hts (Cond.laysStatic "java/lang/String" "COMPACT_STRINGS" "Z") (List.mem_of_getElem? (l := lw_tbl) (i := 753) (by decide +kernel))) (htB _ m_93) (va_eqi (hs _ (by decide +kernel))) (fun a h => Nat.not_le.mpr h), fun k q hq => ?_, va_Zqof (hts (Cond.laysStatic "jdk/internal/util/Preconditions" "SIOOBE_FORMATTER" "Ljava/util/function/BiFunction;") (List.mem_of_getElem? (l := lw_tbl) (i := 794) (by decide +kernel))) (htB _ m_96) (hs _ (by decide +kernel)) (fun a h => Nat.not_le.mpr h)⟩⟩
  · match k, hq with
    | 0, hq => cases hq; exact hcy 0 _ rfl
    | 1, hq => cases hq; exact hcy 1 _ rfl
    | 2, hq => cases hq; exact hcy 2 _ rfl
    | 3, hq => cases hq; exact hcy 3 _ rfl
    | 4, hq => cases hq; exact hcy 4 _ rfl
    | 5, hq => cases hq; exact hcy 5 _ rfl
    | 6, hq => cases hq; exact hcy 6 _ rfl
    | k + 7, hq => simp [TYS] at hq
  · match k, hq with
    | 0, hq => exact r0 q hq
    | 1, hq => exact r1 q hq
    | 2, hq => exact r2 q hq
    | 3, hq => exact r3 q hq
    | 4, hq => exact r4 q hq
    | 5, hq => exact r5 q hq
    | 6, hq => exact r6 q hq
    | k + 7, hq => simp [NSs] at hq
  · match k, hq with
    | 0, hq => cases hq; exact ⟨z0, w0⟩
    | 1, hq => cases hq; exact ⟨z1, w1⟩
    | 2, hq => cases hq; exact ⟨z2, w2⟩
    | 3, hq => cases hq; exact ⟨z3, w3⟩
    | 4, hq => cases hq; exact ⟨z4, w4⟩
    | 5, hq => cases hq; exact ⟨z5, w5⟩
    | 6, hq => cases hq; exact ⟨z6, w6⟩
    | k + 7, hq => simp [STs] at hq
  · match k, hq with
    | 0, hq => cases hq; exact ⟨o0, f0, g0, v0⟩
    | 1, hq => cases hq; exact ⟨o1, f1, g1, v1⟩
    | 2, hq => cases hq; exact ⟨o2, f2, g2, v2⟩
    | 3, hq => cases hq; exact ⟨o3, f3, g3, v3⟩
    | 4, hq => cases hq; exact ⟨o4, f4, g4, v4⟩
    | 5, hq => cases hq; exact ⟨o5, f5, g5, v5⟩
    | 6, hq => cases hq; exact ⟨o6, f6, g6, v6⟩
    | k + 7, hq => simp [SBs] at hq
end
section
/-! cells at the end of a world that are not looked at -/
theorem D_join {A : Nat → Prop} {w1 w2 : va_W} (h1 : va_D A w1) (h2 : va_D A w2) (hd : ∀ (i j a : Nat) (e e' : va_E), w1[i]? = some (a, e) → w2[j]? = some (a, e') → False) : va_D A (w1 ++ w2) := by
  have key : ∀ (k : Nat) (q : Nat × va_E), (w1 ++ w2)[k]? = some q → (k < w1.length ∧ w1[k]? = some q) ∨ (w1.length ≤ k ∧ w2[k - w1.length]? = some q) := fun k q hk => by
    rcases Nat.lt_or_ge k w1.length with h | h
    · rw [List.getElem?_append_left h] at hk; exact Or.inl ⟨h, hk⟩
    · rw [List.getElem?_append_right h] at hk; exact Or.inr ⟨h, hk⟩
  refine ⟨fun i j p q hp hq e => ?_, fun k q hk => ?_⟩
  · obtain ⟨a1, e1⟩ := p
    obtain ⟨a2, e2⟩ := q
    have e : a1 = a2 := e
    subst e
    rcases key i _ hp with ⟨l1, g1⟩ | ⟨l1, g1⟩
    · rcases key j _ hq with ⟨l2, g2⟩ | ⟨l2, g2⟩
      · exact h1.1 i j _ _ g1 g2 rfl
      · exact (hd _ _ _ _ _ g1 g2).elim
    · rcases key j _ hq with ⟨l2, g2⟩ | ⟨l2, g2⟩
      · exact (hd _ _ _ _ _ g2 g1).elim
      · have := h2.1 _ _ _ _ g1 g2 rfl
        omega
  · rcases key k _ hk with ⟨l1, g1⟩ | ⟨l1, g1⟩
    · exact h1.2 _ _ g1
    · exact h2.2 _ _ g1
theorem P_swap {G : va_G} {cl : List vw_C} {w1 w2 : va_W} {H : Heap} (h : va_P G cl (w1 ++ w2) H) : va_P G cl (w2 ++ w1) H := va_P.app (P_right h) (P_left h)
theorem D_swap {A : Nat → Prop} {w1 w2 : va_W} (h : va_D A (w1 ++ w2)) : va_D A (w2 ++ w1) := D_join (D_right h) (D_left h) (fun i j a e e' g1 g2 => D_apart h g2 g1)
theorem aftT {G : va_G} {A : Nat → Prop} {wc wr : va_W} {H H1 : Heap} {B : Heap → Prop} (hP : va_P G classes (wc ++ wr) H) (hD : va_D A (wc ++ wr)) (hF : ∀ q, va_A wc H.size q → A q) (hB : B H1) (hk : ∀ q : Nat, q < H.size → ¬ va_A wc H.size q → H1[q]? = H[q]?) : AFT G A wr B wc H.size H1 := by
  have hr : va_P G classes wr H1 := (P_right hP).kept (fun k q h => hk q.1 (P_size (P_right hP) h) (fun z => by
    rcases z with ⟨i, e1, h1⟩ | z
    · exact D_apart hD h1 h
    · have := P_size (P_right hP) h; omega))
  refine ⟨hB, fun w1 h1 h2 => ⟨va_P.app hr h1, D_join (D_right hD) (h2.weaken (fun _ q _ h => hF q.1 h)) (fun i j a e e' g1 g2 => ?_)⟩, hr, D_right hD⟩
  rcases h2.2 j _ g2 with ⟨k, e1, h3⟩ | h3
  · exact D_apart hD h3 g1
  · have h4 := P_size (P_right hP) g1
    have h3 : H.size ≤ a := h3
    have h4 : a < H.size := h4
    omega
section CTT
variable {p : Program} {l : Launch} {e : Env} {R : Room} {s : State} {m : MethodId} {args : Array Value} {below : List Frame} {meth : Method} {c : Code} {H H0 : Heap} {locs : List Loc} {cells slots : Nat} {Q : State → Prop}
variable {cc : ByteArray} {pc : Nat} {ls : Array Slot} {rest st As : List Value} {G : va_G} {cy : Nat → ClassId} {sk : Nat → Nat} {ws wc wr : va_W} {A : Nat → Prop} {own : String} {idx mc ms nL n k : Nat} {y : MethodName} {b : ByteArray} {r : Option FieldType} {rm : Room} {a ci : Nat} {fs : List Value} {host : String}
theorem wIT {B : Heap → Prop} (hx : p.tables.exec = Jvm.exec) (hb : c.code = cc) (hml : c.maxLocals = nL) (hown : s.vm.findClass own = some m.cls) (hts : ∀ w ∈ BASE, w.before args s = true) (hE : EN G cy sk s) (hM : Met l y (wsO y b n none) rm (va_Pc (.ref a :: As) (PR G cy sk H.size wc)) (va_Qv (fun (_ : Unit) => True) (fun _ t => B t.heap) (va_A wc H.size)) mc ms (va_A wc H.size)) (hy : KI y b n k) (hl : Cond.methodLink own idx y ∈ BASE)
    (hrc : rm.cells = mc) (hrs : rm.slots = ms) (hR : rm.frames + 1 ≤ R.frames ∧ 8 + (n + 11) + rm.locals ≤ R.locals) (hP : va_P G classes (wc ++ wr) H) (hD : va_D A (wc ++ wr)) (hS : va_S A H0 H locs) (hA : ∀ q, H0.size ≤ q → A q) (hst : st = As.reverse ++ .ref a :: rest) (hn : As.length = k) (hls : ls.size = nL) (hW : (rest.map fun v => v.category).sum ≤ 8) (hdg : decode cc pc = .ok (.invokespecial idx, 3)) (hf : cells + mc ≤ R.cells ∧ slots + ms ≤ R.slots)
    (kk : ∀ (H1 : Heap) (locs1 : List Loc), AFT G A wr B wc H.size H1 → va_S A H0 H1 locs1 → W p l e R s m args below meth c H1 locs1 (cells + mc) (slots + ms) Q (F0 m (pc + 3) ls rest)) : W p l e R s m args below meth c H locs cells slots Q (F0 m pc ls st) := by
  have hF : ∀ q, va_A wc H.size q → A q := fun q h => h.elim (fun ⟨k, e, h⟩ => (D_left hD).2 k _ h) (fun h => hA q (Nat.le_trans hS.1 h))
  refine va_callv (va_runI ⟨hx, hb, hml, hown, hts⟩ hM (cwI k hts (b_in (wsO_in hy.2.2.2.1)) rfl hrc hrs (hts _ hy.2.2.1) (hts _ hl) (hts _ hy.1) hy.2.1 hy.2.2.2.2 hR) ⟨PR_blind, PR_of (P_left hP) (D_left hD) hE⟩ rfl hn hls hst (lv_room hW) hdg hf) hS (fun q _ h => hF q h) hF (fun u t H1 locs1 ht hvm hp hB hz hk hS1 => ?_)
  subst ht
  exact kk _ locs1 (aftT hP hD hF hB hk) hS1
theorem wINT {B : Heap → Prop} (hx : p.tables.exec = Jvm.exec) (hb : c.code = cc) (hml : c.maxLocals = nL) (hown : s.vm.findClass own = some m.cls) (hts : ∀ w ∈ BASE, w.before args s = true) (hE : EN G cy sk s) (hM : Met l y (wsO y b n none) rm (va_Pc (.ref a :: As) (PR G cy sk H.size wc)) (va_Qv (fun (_ : Unit) => True) (fun _ t => B t.heap) (va_A wc H.size)) mc ms (va_A wc H.size)) (hy : KI y b n k) (hl : (own, idx, y, host) ∈ NMs)
    (hrc : rm.cells = mc) (hrs : rm.slots = ms) (hR : rm.frames + 1 ≤ R.frames ∧ 8 + (n + 11) + rm.locals ≤ R.locals) (hP : va_P G classes (wc ++ wr) H) (hD : va_D A (wc ++ wr)) (hS : va_S A H0 H locs) (hA : ∀ q, H0.size ≤ q → A q) (hst : st = As.reverse ++ .ref a :: rest) (hn : As.length = k) (hls : ls.size = nL) (hW : (rest.map fun v => v.category).sum ≤ 8) (hdg : decode cc pc = .ok (.invokespecial idx, 3)) (hf : cells + mc ≤ R.cells ∧ slots + ms ≤ R.slots)
    (kk : ∀ (H1 : Heap) (locs1 : List Loc), AFT G A wr B wc H.size H1 → va_S A H0 H1 locs1 → W p l e R s m args below meth c H1 locs1 (cells + mc) (slots + ms) Q (F0 m (pc + 3) ls rest)) : W p l e R s m args below meth c H locs cells slots Q (F0 m pc ls st) := by
  have hF : ∀ q, va_A wc H.size q → A q := fun q h => h.elim (fun ⟨k, e, h⟩ => (D_left hD).2 k _ h) (fun h => hA q (Nat.le_trans hS.1 h))
  refine va_callv (va_runIN ⟨hx, hb, hml, hown, hts⟩ hM ⟨va_cnB k hts (b_in (wsO_in hy.2.2.2.1)) rfl hrc hrs (hE.2.2.1 _ hl) (hts _ hy.2.2.1) hy.2.2.2.2 hR, hy.2.1, hts _ hy.1⟩ ⟨PR_blind, PR_of (P_left hP) (D_left hD) hE⟩ rfl hn hls hst (lv_room hW) hdg hf) hS (fun q _ h => hF q h) hF (fun u t H1 locs1 ht hvm hp hB hz hk hS1 => ?_)
  subst ht
  exact kk _ locs1 (aftT hP hD hF hB hk) hS1
end CTT
end
section
/-! words of the tables that are used, by their places; decode rows; classes -/
set_option maxRecDepth 20000 in
theorem m_107 : Cond.instanceMethod Lib.objectInit ∈ BASE := bmT1 29 rfl rfl
set_option maxRecDepth 20000 in
theorem m_108 : Cond.code Lib.objectInit ⟨#[0xb1]⟩ 1 none ∈ BASE := bmT1 30 rfl rfl
set_option maxRecDepth 20000 in
theorem m_120 : Cond.methodLink RX7 1 Lib.objectInit ∈ BASE := bmT1 42 rfl rfl
set_option maxRecDepth 20000 in
theorem m_152 : Cond.methodLink RX2 1 Lib.objectInit ∈ BASE := bmT1 74 rfl rfl
set_option maxRecDepth 20000 in
theorem m_153 : Cond.classLink RX2 28 RX1 ∈ BASE := bmT1 75 rfl rfl
set_option maxRecDepth 20000 in
theorem m_157 : Cond.instanceMethod yX1_init ∈ BASE := bmT1 79 rfl rfl
set_option maxRecDepth 20000 in
theorem m_158 : Cond.code yX1_init cX1_init 1 none ∈ BASE := bmT1 80 rfl rfl
set_option maxRecDepth 20000 in
theorem m_159 : Cond.methodLink RX1 3 Lib.objectInit ∈ BASE := bmT1 81 rfl rfl
set_option maxRecDepth 20000 in
theorem m_198 : Cond.methodLink RX3 1 Lib.objectInit ∈ BASE := bmT1 120 rfl rfl
set_option maxRecDepth 20000 in
theorem m_199 : Cond.classLink RX3 23 RX5 ∈ BASE := bmT1 121 rfl rfl
set_option maxRecDepth 20000 in
theorem m_201 : Cond.methodLink RX3 25 yX5_init ∈ BASE := bmT1 123 rfl rfl
set_option maxRecDepth 20000 in
theorem m_202 : Cond.instanceMethod yX5_init ∈ BASE := bmT1 124 rfl rfl
set_option maxRecDepth 20000 in
theorem m_203 : Cond.code yX5_init cX5_init 2 none ∈ BASE := bmT1 125 rfl rfl
set_option maxRecDepth 20000 in
theorem m_204 : Cond.methodLink RX5 1 Lib.objectInit ∈ BASE := bmT1 126 rfl rfl
set_option maxRecDepth 20000 in
theorem m_205 : Cond.methodLink RX5 13 Lib.Math.max.name ∈ BASE := bmT1 127 rfl rfl
set_option maxRecDepth 20000 in
theorem m_257 : Cond.methodLink RX9 1 Lib.objectInit ∈ BASE := bmT1 179 rfl rfl
set_option maxRecDepth 20000 in
theorem m_352 : Cond.methodLink RX4 1 Lib.objectInit ∈ BASE := bmT2 34 rfl rfl
set_option maxRecDepth 20000 in
theorem m_353 : Cond.classLink RX4 7 RX1 ∈ BASE := bmT2 35 rfl rfl
set_option maxRecDepth 20000 in
theorem m_355 : Cond.classLink RX4 16 RX5 ∈ BASE := bmT2 37 rfl rfl
set_option maxRecDepth 20000 in
theorem m_356 : Cond.methodLink RX4 18 yX5_init ∈ BASE := bmT2 38 rfl rfl
set_option maxRecDepth 20000 in
theorem m_387 : Cond.methodLink RX0 1 Lib.objectInit ∈ BASE := bmT2 69 rfl rfl
set_option maxRecDepth 20000 in
theorem m_416 : Cond.methodLink RX8 1 Lib.objectInit ∈ BASE := bmT2 98 rfl rfl
set_option maxRecDepth 20000 in
theorem m_417 : Cond.classLink RX8 7 RX5 ∈ BASE := bmT2 99 rfl rfl
set_option maxRecDepth 20000 in
theorem m_418 : Cond.methodLink RX8 9 yX5_init ∈ BASE := bmT2 100 rfl rfl
set_option maxRecDepth 20000 in
theorem m_444 : Cond.methodLink RX6 1 Lib.objectInit ∈ BASE := bmT2 126 rfl rfl
theorem kI_X1_init : KI yX1_init cX1_init 1 0 := ⟨m_157, rfl, m_83, m_158, nhM_6, nhV_6, pdn_30⟩
theorem kI_X5_init : KI yX5_init cX5_init 2 1 := ⟨m_202, rfl, m_85, m_203, nhM_2, nhV_2, pdn_4⟩
theorem df0 : ∀ j, j < 6 → defaultValue (tyX0 j) = vp_V [.null, .null, .null, .null, .int 0, .int 0] j := fun j hj => by rcases (show j = 0 ∨ j = 1 ∨ j = 2 ∨ j = 3 ∨ j = 4 ∨ j = 5 by omega) with rfl | rfl | rfl | rfl | rfl | rfl <;> rfl
theorem df1 : ∀ j, j < 3 → defaultValue (tyX1 j) = vp_V [.null, .null, .int 0] j := fun j hj => by rcases (show j = 0 ∨ j = 1 ∨ j = 2 by omega) with rfl | rfl | rfl <;> rfl
theorem df2 : ∀ j, j < 7 → defaultValue (tyX2 j) = vp_V [.int 0, .int 0, .int 0, .null, .null, .null, .null] j := fun j hj => by rcases (show j = 0 ∨ j = 1 ∨ j = 2 ∨ j = 3 ∨ j = 4 ∨ j = 5 ∨ j = 6 by omega) with rfl | rfl | rfl | rfl | rfl | rfl | rfl <;> rfl
theorem df3 : ∀ j, j < 9 → defaultValue (tyX3 j) = vp_V [.null, .null, .null, .int 0, .null, .null, .int 0, .int 0, .int 0] j := fun j hj => by rcases (show j = 0 ∨ j = 1 ∨ j = 2 ∨ j = 3 ∨ j = 4 ∨ j = 5 ∨ j = 6 ∨ j = 7 ∨ j = 8 by omega) with rfl | rfl | rfl | rfl | rfl | rfl | rfl | rfl | rfl <;> rfl
theorem df4 : ∀ j, j < 7 → defaultValue (tyX4 j) = vp_V [.null, .null, .null, .int 0, .int 0, .int 0, .int 0] j := fun j hj => by rcases (show j = 0 ∨ j = 1 ∨ j = 2 ∨ j = 3 ∨ j = 4 ∨ j = 5 ∨ j = 6 by omega) with rfl | rfl | rfl | rfl | rfl | rfl | rfl <;> rfl
theorem df5 : ∀ j, j < 2 → defaultValue (tyX5 j) = vp_V [.null, .int 0] j := fun j hj => by rcases (show j = 0 ∨ j = 1 by omega) with rfl | rfl <;> rfl
theorem df6 : ∀ j, j < 3 → defaultValue (tyX6 j) = vp_V [.int 0, .int 0, .null] j := fun j hj => by rcases (show j = 0 ∨ j = 1 ∨ j = 2 by omega) with rfl | rfl | rfl <;> rfl
theorem df7 : ∀ j, j < 6 → defaultValue (tyX7 j) = vp_V [.null, .null, .null, .null, .null, .int 0] j := fun j hj => by rcases (show j = 0 ∨ j = 1 ∨ j = 2 ∨ j = 3 ∨ j = 4 ∨ j = 5 by omega) with rfl | rfl | rfl | rfl | rfl | rfl <;> rfl
theorem df8 : ∀ j, j < 6 → defaultValue (tyX8 j) = vp_V [.null, .null, .int 0, .int 0, .int 0, .int 0] j := fun j hj => by rcases (show j = 0 ∨ j = 1 ∨ j = 2 ∨ j = 3 ∨ j = 4 ∨ j = 5 by omega) with rfl | rfl | rfl | rfl | rfl | rfl <;> rfl
theorem df9 : ∀ j, j < 11 → defaultValue (tyX9 j) = vp_V [.int 0, .int 0, .int 0, .int 0, .int 0, .int 0, .int 0, .int 0, .int 0, .null, .null] j := fun j hj => by rcases (show j = 0 ∨ j = 1 ∨ j = 2 ∨ j = 3 ∨ j = 4 ∨ j = 5 ∨ j = 6 ∨ j = 7 ∨ j = 8 ∨ j = 9 ∨ j = 10 by omega) with rfl | rfl | rfl | rfl | rfl | rfl | rfl | rfl | rfl | rfl | rfl <;> rfl
/-! decode rows -/
theorem dX0_init_0 : decode cX0_init 0 = .ok (.aload_n 0, 1) := by decide +kernel
theorem dX0_init_1 : decode cX0_init 1 = .ok (.invokespecial 1, 3) := by decide +kernel
theorem dX0_init_4 : decode cX0_init 4 = .ok (.aload_n 0, 1) := by decide +kernel
theorem dX0_init_5 : decode cX0_init 5 = .ok (.sipush 192, 3) := by decide +kernel
theorem dX0_init_8 : decode cX0_init 8 = .ok (.newarray .int, 2) := by decide +kernel
theorem dX0_init_10 : decode cX0_init 10 = .ok (.putfield 9, 3) := by decide +kernel
theorem dX0_init_13 : decode cX0_init 13 = .ok (.aload_n 0, 1) := by decide +kernel
theorem dX0_init_14 : decode cX0_init 14 = .ok (.sipush 192, 3) := by decide +kernel
theorem dX0_init_17 : decode cX0_init 17 = .ok (.newarray .boolean, 2) := by decide +kernel
theorem dX0_init_19 : decode cX0_init 19 = .ok (.putfield 15, 3) := by decide +kernel
theorem dX0_init_22 : decode cX0_init 22 = .ok (.aload_n 0, 1) := by decide +kernel
theorem dX0_init_23 : decode cX0_init 23 = .ok (.bipush 24, 2) := by decide +kernel
theorem dX0_init_25 : decode cX0_init 25 = .ok (.newarray .long, 2) := by decide +kernel
theorem dX0_init_27 : decode cX0_init 27 = .ok (.putfield 19, 3) := by decide +kernel
theorem dX0_init_30 : decode cX0_init 30 = .ok (.aload_n 0, 1) := by decide +kernel
theorem dX0_init_31 : decode cX0_init 31 = .ok (.bipush 8, 2) := by decide +kernel
theorem dX0_init_33 : decode cX0_init 33 = .ok (.newarray .int, 2) := by decide +kernel
theorem dX0_init_35 : decode cX0_init 35 = .ok (.putfield 23, 3) := by decide +kernel
theorem dX0_init_38 : decode cX0_init 38 = .ok (.aload_n 0, 1) := by decide +kernel
theorem dX0_init_39 : decode cX0_init 39 = .ok (.iconst 0, 1) := by decide +kernel
theorem dX0_init_40 : decode cX0_init 40 = .ok (.putfield 26, 3) := by decide +kernel
theorem dX0_init_43 : decode cX0_init 43 = .ok (.aload_n 0, 1) := by decide +kernel
theorem dX0_init_44 : decode cX0_init 44 = .ok (.iconst 0, 1) := by decide +kernel
theorem dX0_init_45 : decode cX0_init 45 = .ok (.putfield 30, 3) := by decide +kernel
theorem dX0_init_48 : decode cX0_init 48 = .ok (.return_, 1) := by decide +kernel
theorem dX1_init_0 : decode cX1_init 0 = .ok (.aload_n 0, 1) := by decide +kernel
theorem dX1_init_1 : decode cX1_init 1 = .ok (.invokespecial 3, 3) := by decide +kernel
theorem dX1_init_4 : decode cX1_init 4 = .ok (.aload_n 0, 1) := by decide +kernel
theorem dX1_init_5 : decode cX1_init 5 = .ok (.bipush 48, 2) := by decide +kernel
theorem dX1_init_7 : decode cX1_init 7 = .ok (.newarray .int, 2) := by decide +kernel
theorem dX1_init_9 : decode cX1_init 9 = .ok (.putfield 9, 3) := by decide +kernel
theorem dX1_init_12 : decode cX1_init 12 = .ok (.aload_n 0, 1) := by decide +kernel
theorem dX1_init_13 : decode cX1_init 13 = .ok (.bipush 48, 2) := by decide +kernel
theorem dX1_init_15 : decode cX1_init 15 = .ok (.newarray .int, 2) := by decide +kernel
theorem dX1_init_17 : decode cX1_init 17 = .ok (.putfield 13, 3) := by decide +kernel
theorem dX1_init_20 : decode cX1_init 20 = .ok (.aload_n 0, 1) := by decide +kernel
theorem dX1_init_21 : decode cX1_init 21 = .ok (.iconst 0, 1) := by decide +kernel
theorem dX1_init_22 : decode cX1_init 22 = .ok (.putfield 16, 3) := by decide +kernel
theorem dX1_init_25 : decode cX1_init 25 = .ok (.return_, 1) := by decide +kernel
theorem dX2_init_0 : decode cX2_init 0 = .ok (.aload_n 0, 1) := by decide +kernel
theorem dX2_init_1 : decode cX2_init 1 = .ok (.invokespecial 1, 3) := by decide +kernel
theorem dX2_init_4 : decode cX2_init 4 = .ok (.aload_n 0, 1) := by decide +kernel
theorem dX2_init_5 : decode cX2_init 5 = .ok (.iconst 5, 1) := by decide +kernel
theorem dX2_init_6 : decode cX2_init 6 = .ok (.putfield 7, 3) := by decide +kernel
theorem dX2_init_9 : decode cX2_init 9 = .ok (.aload_n 0, 1) := by decide +kernel
theorem dX2_init_10 : decode cX2_init 10 = .ok (.bipush 9, 2) := by decide +kernel
theorem dX2_init_12 : decode cX2_init 12 = .ok (.putfield 13, 3) := by decide +kernel
theorem dX2_init_15 : decode cX2_init 15 = .ok (.aload_n 0, 1) := by decide +kernel
theorem dX2_init_16 : decode cX2_init 16 = .ok (.iconst 0, 1) := by decide +kernel
theorem dX2_init_17 : decode cX2_init 17 = .ok (.putfield 16, 3) := by decide +kernel
theorem dX2_init_20 : decode cX2_init 20 = .ok (.aload_n 0, 1) := by decide +kernel
theorem dX2_init_21 : decode cX2_init 21 = .ok (.iconst 5, 1) := by decide +kernel
theorem dX2_init_22 : decode cX2_init 22 = .ok (.newarray .int, 2) := by decide +kernel
theorem dX2_init_24 : decode cX2_init 24 = .ok (.putfield 21, 3) := by decide +kernel
theorem dX2_init_27 : decode cX2_init 27 = .ok (.aload_n 0, 1) := by decide +kernel
theorem dX2_init_28 : decode cX2_init 28 = .ok (.iconst 5, 1) := by decide +kernel
theorem dX2_init_29 : decode cX2_init 29 = .ok (.newarray .int, 2) := by decide +kernel
theorem dX2_init_31 : decode cX2_init 31 = .ok (.putfield 25, 3) := by decide +kernel
theorem dX2_init_34 : decode cX2_init 34 = .ok (.aload_n 0, 1) := by decide +kernel
theorem dX2_init_35 : decode cX2_init 35 = .ok (.iconst 3, 1) := by decide +kernel
theorem dX2_init_36 : decode cX2_init 36 = .ok (.anewarray 28, 3) := by decide +kernel
theorem dX2_init_39 : decode cX2_init 39 = .ok (.putfield 30, 3) := by decide +kernel
theorem dX2_init_42 : decode cX2_init 42 = .ok (.aload_n 0, 1) := by decide +kernel
theorem dX2_init_43 : decode cX2_init 43 = .ok (.iconst 5, 1) := by decide +kernel
theorem dX2_init_44 : decode cX2_init 44 = .ok (.newarray .int, 2) := by decide +kernel
theorem dX2_init_46 : decode cX2_init 46 = .ok (.putfield 34, 3) := by decide +kernel
theorem dX2_init_49 : decode cX2_init 49 = .ok (.iconst 0, 1) := by decide +kernel
theorem dX2_init_50 : decode cX2_init 50 = .ok (.istore_n 1, 1) := by decide +kernel
theorem dX2_init_51 : decode cX2_init 51 = .ok (.iload_n 1, 1) := by decide +kernel
theorem dX2_init_52 : decode cX2_init 52 = .ok (.iconst 5, 1) := by decide +kernel
theorem dX2_init_53 : decode cX2_init 53 = .ok (.if_icmp .ge 17, 3) := by decide +kernel
theorem dX2_init_56 : decode cX2_init 56 = .ok (.aload_n 0, 1) := by decide +kernel
theorem dX2_init_57 : decode cX2_init 57 = .ok (.getfield 21, 3) := by decide +kernel
theorem dX2_init_60 : decode cX2_init 60 = .ok (.iload_n 1, 1) := by decide +kernel
theorem dX2_init_61 : decode cX2_init 61 = .ok (.bipush 50, 2) := by decide +kernel
theorem dX2_init_63 : decode cX2_init 63 = .ok (.iastore, 1) := by decide +kernel
theorem dX2_init_64 : decode cX2_init 64 = .ok (.iinc 1 1, 3) := by decide +kernel
theorem dX2_init_67 : decode cX2_init 67 = .ok (.goto (-16), 3) := by decide +kernel
theorem dX2_init_70 : decode cX2_init 70 = .ok (.iconst 0, 1) := by decide +kernel
theorem dX2_init_71 : decode cX2_init 71 = .ok (.istore_n 1, 1) := by decide +kernel
theorem dX2_init_72 : decode cX2_init 72 = .ok (.iload_n 1, 1) := by decide +kernel
theorem dX2_init_73 : decode cX2_init 73 = .ok (.iconst 3, 1) := by decide +kernel
theorem dX2_init_74 : decode cX2_init 74 = .ok (.if_icmp .ge 22, 3) := by decide +kernel
theorem dX2_init_77 : decode cX2_init 77 = .ok (.aload_n 0, 1) := by decide +kernel
theorem dX2_init_78 : decode cX2_init 78 = .ok (.getfield 30, 3) := by decide +kernel
theorem dX2_init_81 : decode cX2_init 81 = .ok (.iload_n 1, 1) := by decide +kernel
theorem dX2_init_82 : decode cX2_init 82 = .ok (.new 28, 3) := by decide +kernel
theorem dX2_init_85 : decode cX2_init 85 = .ok (.dup, 1) := by decide +kernel
theorem dX2_init_86 : decode cX2_init 86 = .ok (.invokespecial 37, 3) := by decide +kernel
theorem dX2_init_89 : decode cX2_init 89 = .ok (.aastore, 1) := by decide +kernel
theorem dX2_init_90 : decode cX2_init 90 = .ok (.iinc 1 1, 3) := by decide +kernel
theorem dX2_init_93 : decode cX2_init 93 = .ok (.goto (-21), 3) := by decide +kernel
theorem dX2_init_96 : decode cX2_init 96 = .ok (.return_, 1) := by decide +kernel
theorem dX3_init_0 : decode cX3_init 0 = .ok (.aload_n 0, 1) := by decide +kernel
theorem dX3_init_1 : decode cX3_init 1 = .ok (.invokespecial 1, 3) := by decide +kernel
theorem dX3_init_4 : decode cX3_init 4 = .ok (.aload_n 0, 1) := by decide +kernel
theorem dX3_init_5 : decode cX3_init 5 = .ok (.bipush 7, 2) := by decide +kernel
theorem dX3_init_7 : decode cX3_init 7 = .ok (.newarray .int, 2) := by decide +kernel
theorem dX3_init_9 : decode cX3_init 9 = .ok (.putfield 9, 3) := by decide +kernel
theorem dX3_init_12 : decode cX3_init 12 = .ok (.aload_n 0, 1) := by decide +kernel
theorem dX3_init_13 : decode cX3_init 13 = .ok (.bipush 7, 2) := by decide +kernel
theorem dX3_init_15 : decode cX3_init 15 = .ok (.newarray .int, 2) := by decide +kernel
theorem dX3_init_17 : decode cX3_init 17 = .ok (.putfield 13, 3) := by decide +kernel
theorem dX3_init_20 : decode cX3_init 20 = .ok (.aload_n 0, 1) := by decide +kernel
theorem dX3_init_21 : decode cX3_init 21 = .ok (.bipush 7, 2) := by decide +kernel
theorem dX3_init_23 : decode cX3_init 23 = .ok (.newarray .int, 2) := by decide +kernel
theorem dX3_init_25 : decode cX3_init 25 = .ok (.putfield 16, 3) := by decide +kernel
theorem dX3_init_28 : decode cX3_init 28 = .ok (.aload_n 0, 1) := by decide +kernel
theorem dX3_init_29 : decode cX3_init 29 = .ok (.iconst 0, 1) := by decide +kernel
theorem dX3_init_30 : decode cX3_init 30 = .ok (.putfield 19, 3) := by decide +kernel
theorem dX3_init_33 : decode cX3_init 33 = .ok (.aload_n 0, 1) := by decide +kernel
theorem dX3_init_34 : decode cX3_init 34 = .ok (.new 23, 3) := by decide +kernel
theorem dX3_init_37 : decode cX3_init 37 = .ok (.dup, 1) := by decide +kernel
theorem dX3_init_38 : decode cX3_init 38 = .ok (.bipush 7, 2) := by decide +kernel
theorem dX3_init_40 : decode cX3_init 40 = .ok (.invokespecial 25, 3) := by decide +kernel
theorem dX3_init_43 : decode cX3_init 43 = .ok (.putfield 28, 3) := by decide +kernel
theorem dX3_init_46 : decode cX3_init 46 = .ok (.aload_n 0, 1) := by decide +kernel
theorem dX3_init_47 : decode cX3_init 47 = .ok (.new 23, 3) := by decide +kernel
theorem dX3_init_50 : decode cX3_init 50 = .ok (.dup, 1) := by decide +kernel
theorem dX3_init_51 : decode cX3_init 51 = .ok (.bipush 7, 2) := by decide +kernel
theorem dX3_init_53 : decode cX3_init 53 = .ok (.invokespecial 25, 3) := by decide +kernel
theorem dX3_init_56 : decode cX3_init 56 = .ok (.putfield 32, 3) := by decide +kernel
theorem dX3_init_59 : decode cX3_init 59 = .ok (.aload_n 0, 1) := by decide +kernel
theorem dX3_init_60 : decode cX3_init 60 = .ok (.iconst 0, 1) := by decide +kernel
theorem dX3_init_61 : decode cX3_init 61 = .ok (.putfield 35, 3) := by decide +kernel
theorem dX3_init_64 : decode cX3_init 64 = .ok (.aload_n 0, 1) := by decide +kernel
theorem dX3_init_65 : decode cX3_init 65 = .ok (.iconst 0, 1) := by decide +kernel
theorem dX3_init_66 : decode cX3_init 66 = .ok (.putfield 38, 3) := by decide +kernel
theorem dX3_init_69 : decode cX3_init 69 = .ok (.aload_n 0, 1) := by decide +kernel
theorem dX3_init_70 : decode cX3_init 70 = .ok (.iconst 0, 1) := by decide +kernel
theorem dX3_init_71 : decode cX3_init 71 = .ok (.putfield 41, 3) := by decide +kernel
theorem dX3_init_74 : decode cX3_init 74 = .ok (.return_, 1) := by decide +kernel
theorem dX4_init_0 : decode cX4_init 0 = .ok (.aload_n 0, 1) := by decide +kernel
theorem dX4_init_1 : decode cX4_init 1 = .ok (.invokespecial 1, 3) := by decide +kernel
theorem dX4_init_4 : decode cX4_init 4 = .ok (.aload_n 0, 1) := by decide +kernel
theorem dX4_init_5 : decode cX4_init 5 = .ok (.new 7, 3) := by decide +kernel
theorem dX4_init_8 : decode cX4_init 8 = .ok (.dup, 1) := by decide +kernel
theorem dX4_init_9 : decode cX4_init 9 = .ok (.invokespecial 9, 3) := by decide +kernel
theorem dX4_init_12 : decode cX4_init 12 = .ok (.putfield 10, 3) := by decide +kernel
theorem dX4_init_15 : decode cX4_init 15 = .ok (.aload_n 0, 1) := by decide +kernel
theorem dX4_init_16 : decode cX4_init 16 = .ok (.new 16, 3) := by decide +kernel
theorem dX4_init_19 : decode cX4_init 19 = .ok (.dup, 1) := by decide +kernel
theorem dX4_init_20 : decode cX4_init 20 = .ok (.iconst 0, 1) := by decide +kernel
theorem dX4_init_21 : decode cX4_init 21 = .ok (.invokespecial 18, 3) := by decide +kernel
theorem dX4_init_24 : decode cX4_init 24 = .ok (.putfield 21, 3) := by decide +kernel
theorem dX4_init_27 : decode cX4_init 27 = .ok (.aload_n 0, 1) := by decide +kernel
theorem dX4_init_28 : decode cX4_init 28 = .ok (.ldc 25, 2) := by decide +kernel
theorem dX4_init_30 : decode cX4_init 30 = .ok (.putfield 27, 3) := by decide +kernel
theorem dX4_init_33 : decode cX4_init 33 = .ok (.aload_n 0, 1) := by decide +kernel
theorem dX4_init_34 : decode cX4_init 34 = .ok (.iconst 0, 1) := by decide +kernel
theorem dX4_init_35 : decode cX4_init 35 = .ok (.putfield 31, 3) := by decide +kernel
theorem dX4_init_38 : decode cX4_init 38 = .ok (.aload_n 0, 1) := by decide +kernel
theorem dX4_init_39 : decode cX4_init 39 = .ok (.iconst (-1), 1) := by decide +kernel
theorem dX4_init_40 : decode cX4_init 40 = .ok (.putfield 35, 3) := by decide +kernel
theorem dX4_init_43 : decode cX4_init 43 = .ok (.aload_n 0, 1) := by decide +kernel
theorem dX4_init_44 : decode cX4_init 44 = .ok (.iconst 0, 1) := by decide +kernel
theorem dX4_init_45 : decode cX4_init 45 = .ok (.putfield 38, 3) := by decide +kernel
theorem dX4_init_48 : decode cX4_init 48 = .ok (.aload_n 0, 1) := by decide +kernel
theorem dX4_init_49 : decode cX4_init 49 = .ok (.iconst 0, 1) := by decide +kernel
theorem dX4_init_50 : decode cX4_init 50 = .ok (.putfield 41, 3) := by decide +kernel
theorem dX4_init_53 : decode cX4_init 53 = .ok (.return_, 1) := by decide +kernel
theorem dX5_init_0 : decode cX5_init 0 = .ok (.aload_n 0, 1) := by decide +kernel
theorem dX5_init_1 : decode cX5_init 1 = .ok (.invokespecial 1, 3) := by decide +kernel
theorem dX5_init_4 : decode cX5_init 4 = .ok (.aload_n 0, 1) := by decide +kernel
theorem dX5_init_5 : decode cX5_init 5 = .ok (.iconst 0, 1) := by decide +kernel
theorem dX5_init_6 : decode cX5_init 6 = .ok (.putfield 7, 3) := by decide +kernel
theorem dX5_init_9 : decode cX5_init 9 = .ok (.aload_n 0, 1) := by decide +kernel
theorem dX5_init_10 : decode cX5_init 10 = .ok (.iconst 0, 1) := by decide +kernel
theorem dX5_init_11 : decode cX5_init 11 = .ok (.iload_n 1, 1) := by decide +kernel
theorem dX5_init_12 : decode cX5_init 12 = .ok (.invokestatic 13, 3) := by decide +kernel
theorem dX5_init_15 : decode cX5_init 15 = .ok (.newarray .int, 2) := by decide +kernel
theorem dX5_init_17 : decode cX5_init 17 = .ok (.putfield 19, 3) := by decide +kernel
theorem dX5_init_20 : decode cX5_init 20 = .ok (.return_, 1) := by decide +kernel
theorem dX6_init_0 : decode cX6_init 0 = .ok (.aload_n 0, 1) := by decide +kernel
theorem dX6_init_1 : decode cX6_init 1 = .ok (.invokespecial 1, 3) := by decide +kernel
theorem dX6_init_4 : decode cX6_init 4 = .ok (.aload_n 0, 1) := by decide +kernel
theorem dX6_init_5 : decode cX6_init 5 = .ok (.iconst 0, 1) := by decide +kernel
theorem dX6_init_6 : decode cX6_init 6 = .ok (.putfield 7, 3) := by decide +kernel
theorem dX6_init_9 : decode cX6_init 9 = .ok (.aload_n 0, 1) := by decide +kernel
theorem dX6_init_10 : decode cX6_init 10 = .ok (.iconst 0, 1) := by decide +kernel
theorem dX6_init_11 : decode cX6_init 11 = .ok (.putfield 13, 3) := by decide +kernel
theorem dX6_init_14 : decode cX6_init 14 = .ok (.aload_n 0, 1) := by decide +kernel
theorem dX6_init_15 : decode cX6_init 15 = .ok (.bipush 24, 2) := by decide +kernel
theorem dX6_init_17 : decode cX6_init 17 = .ok (.newarray .int, 2) := by decide +kernel
theorem dX6_init_19 : decode cX6_init 19 = .ok (.putfield 16, 3) := by decide +kernel
theorem dX6_init_22 : decode cX6_init 22 = .ok (.return_, 1) := by decide +kernel
theorem dX7_init_0 : decode cX7_init 0 = .ok (.aload_n 0, 1) := by decide +kernel
theorem dX7_init_1 : decode cX7_init 1 = .ok (.invokespecial 1, 3) := by decide +kernel
theorem dX7_init_4 : decode cX7_init 4 = .ok (.aload_n 0, 1) := by decide +kernel
theorem dX7_init_5 : decode cX7_init 5 = .ok (.sipush 192, 3) := by decide +kernel
theorem dX7_init_8 : decode cX7_init 8 = .ok (.newarray .int, 2) := by decide +kernel
theorem dX7_init_10 : decode cX7_init 10 = .ok (.putfield 9, 3) := by decide +kernel
theorem dX7_init_13 : decode cX7_init 13 = .ok (.aload_n 0, 1) := by decide +kernel
theorem dX7_init_14 : decode cX7_init 14 = .ok (.bipush 40, 2) := by decide +kernel
theorem dX7_init_16 : decode cX7_init 16 = .ok (.newarray .int, 2) := by decide +kernel
theorem dX7_init_18 : decode cX7_init 18 = .ok (.putfield 13, 3) := by decide +kernel
theorem dX7_init_21 : decode cX7_init 21 = .ok (.aload_n 0, 1) := by decide +kernel
theorem dX7_init_22 : decode cX7_init 22 = .ok (.bipush 40, 2) := by decide +kernel
theorem dX7_init_24 : decode cX7_init 24 = .ok (.newarray .int, 2) := by decide +kernel
theorem dX7_init_26 : decode cX7_init 26 = .ok (.putfield 16, 3) := by decide +kernel
theorem dX7_init_29 : decode cX7_init 29 = .ok (.aload_n 0, 1) := by decide +kernel
theorem dX7_init_30 : decode cX7_init 30 = .ok (.bipush 40, 2) := by decide +kernel
theorem dX7_init_32 : decode cX7_init 32 = .ok (.newarray .int, 2) := by decide +kernel
theorem dX7_init_34 : decode cX7_init 34 = .ok (.putfield 19, 3) := by decide +kernel
theorem dX7_init_37 : decode cX7_init 37 = .ok (.aload_n 0, 1) := by decide +kernel
theorem dX7_init_38 : decode cX7_init 38 = .ok (.bipush 40, 2) := by decide +kernel
theorem dX7_init_40 : decode cX7_init 40 = .ok (.newarray .int, 2) := by decide +kernel
theorem dX7_init_42 : decode cX7_init 42 = .ok (.putfield 22, 3) := by decide +kernel
theorem dX7_init_45 : decode cX7_init 45 = .ok (.aload_n 0, 1) := by decide +kernel
theorem dX7_init_46 : decode cX7_init 46 = .ok (.iconst 0, 1) := by decide +kernel
theorem dX7_init_47 : decode cX7_init 47 = .ok (.putfield 25, 3) := by decide +kernel
theorem dX7_init_50 : decode cX7_init 50 = .ok (.iconst 0, 1) := by decide +kernel
theorem dX7_init_51 : decode cX7_init 51 = .ok (.istore_n 1, 1) := by decide +kernel
theorem dX7_init_52 : decode cX7_init 52 = .ok (.iload_n 1, 1) := by decide +kernel
theorem dX7_init_53 : decode cX7_init 53 = .ok (.sipush 192, 3) := by decide +kernel
theorem dX7_init_56 : decode cX7_init 56 = .ok (.if_icmp .ge 16, 3) := by decide +kernel
theorem dX7_init_59 : decode cX7_init 59 = .ok (.aload_n 0, 1) := by decide +kernel
theorem dX7_init_60 : decode cX7_init 60 = .ok (.getfield 9, 3) := by decide +kernel
theorem dX7_init_63 : decode cX7_init 63 = .ok (.iload_n 1, 1) := by decide +kernel
theorem dX7_init_64 : decode cX7_init 64 = .ok (.iconst (-1), 1) := by decide +kernel
theorem dX7_init_65 : decode cX7_init 65 = .ok (.iastore, 1) := by decide +kernel
theorem dX7_init_66 : decode cX7_init 66 = .ok (.iinc 1 1, 3) := by decide +kernel
theorem dX7_init_69 : decode cX7_init 69 = .ok (.goto (-17), 3) := by decide +kernel
theorem dX7_init_72 : decode cX7_init 72 = .ok (.return_, 1) := by decide +kernel
theorem dX8_init_0 : decode cX8_init 0 = .ok (.aload_n 0, 1) := by decide +kernel
theorem dX8_init_1 : decode cX8_init 1 = .ok (.invokespecial 1, 3) := by decide +kernel
theorem dX8_init_4 : decode cX8_init 4 = .ok (.aload_n 0, 1) := by decide +kernel
theorem dX8_init_5 : decode cX8_init 5 = .ok (.new 7, 3) := by decide +kernel
theorem dX8_init_8 : decode cX8_init 8 = .ok (.dup, 1) := by decide +kernel
theorem dX8_init_9 : decode cX8_init 9 = .ok (.bipush 30, 2) := by decide +kernel
theorem dX8_init_11 : decode cX8_init 11 = .ok (.invokespecial 9, 3) := by decide +kernel
theorem dX8_init_14 : decode cX8_init 14 = .ok (.putfield 12, 3) := by decide +kernel
theorem dX8_init_17 : decode cX8_init 17 = .ok (.aload_n 0, 1) := by decide +kernel
theorem dX8_init_18 : decode cX8_init 18 = .ok (.new 7, 3) := by decide +kernel
theorem dX8_init_21 : decode cX8_init 21 = .ok (.dup, 1) := by decide +kernel
theorem dX8_init_22 : decode cX8_init 22 = .ok (.bipush 30, 2) := by decide +kernel
theorem dX8_init_24 : decode cX8_init 24 = .ok (.invokespecial 9, 3) := by decide +kernel
theorem dX8_init_27 : decode cX8_init 27 = .ok (.putfield 18, 3) := by decide +kernel
theorem dX8_init_30 : decode cX8_init 30 = .ok (.aload_n 0, 1) := by decide +kernel
theorem dX8_init_31 : decode cX8_init 31 = .ok (.iconst 0, 1) := by decide +kernel
theorem dX8_init_32 : decode cX8_init 32 = .ok (.putfield 21, 3) := by decide +kernel
theorem dX8_init_35 : decode cX8_init 35 = .ok (.aload_n 0, 1) := by decide +kernel
theorem dX8_init_36 : decode cX8_init 36 = .ok (.iconst 0, 1) := by decide +kernel
theorem dX8_init_37 : decode cX8_init 37 = .ok (.putfield 25, 3) := by decide +kernel
theorem dX8_init_40 : decode cX8_init 40 = .ok (.aload_n 0, 1) := by decide +kernel
theorem dX8_init_41 : decode cX8_init 41 = .ok (.iconst 0, 1) := by decide +kernel
theorem dX8_init_42 : decode cX8_init 42 = .ok (.putfield 28, 3) := by decide +kernel
theorem dX8_init_45 : decode cX8_init 45 = .ok (.aload_n 0, 1) := by decide +kernel
theorem dX8_init_46 : decode cX8_init 46 = .ok (.iconst 0, 1) := by decide +kernel
theorem dX8_init_47 : decode cX8_init 47 = .ok (.putfield 31, 3) := by decide +kernel
theorem dX8_init_50 : decode cX8_init 50 = .ok (.return_, 1) := by decide +kernel
theorem dX9_init_0 : decode cX9_init 0 = .ok (.aload_n 0, 1) := by decide +kernel
theorem dX9_init_1 : decode cX9_init 1 = .ok (.invokespecial 1, 3) := by decide +kernel
theorem dX9_init_4 : decode cX9_init 4 = .ok (.aload_n 0, 1) := by decide +kernel
theorem dX9_init_5 : decode cX9_init 5 = .ok (.iconst 0, 1) := by decide +kernel
theorem dX9_init_6 : decode cX9_init 6 = .ok (.putfield 7, 3) := by decide +kernel
theorem dX9_init_9 : decode cX9_init 9 = .ok (.aload_n 0, 1) := by decide +kernel
theorem dX9_init_10 : decode cX9_init 10 = .ok (.iconst 0, 1) := by decide +kernel
theorem dX9_init_11 : decode cX9_init 11 = .ok (.putfield 13, 3) := by decide +kernel
theorem dX9_init_14 : decode cX9_init 14 = .ok (.aload_n 0, 1) := by decide +kernel
theorem dX9_init_15 : decode cX9_init 15 = .ok (.iconst 0, 1) := by decide +kernel
theorem dX9_init_16 : decode cX9_init 16 = .ok (.putfield 16, 3) := by decide +kernel
theorem dX9_init_19 : decode cX9_init 19 = .ok (.aload_n 0, 1) := by decide +kernel
theorem dX9_init_20 : decode cX9_init 20 = .ok (.iconst 5, 1) := by decide +kernel
theorem dX9_init_21 : decode cX9_init 21 = .ok (.putfield 19, 3) := by decide +kernel
theorem dX9_init_24 : decode cX9_init 24 = .ok (.aload_n 0, 1) := by decide +kernel
theorem dX9_init_25 : decode cX9_init 25 = .ok (.bipush 60, 2) := by decide +kernel
theorem dX9_init_27 : decode cX9_init 27 = .ok (.putfield 22, 3) := by decide +kernel
theorem dX9_init_30 : decode cX9_init 30 = .ok (.aload_n 0, 1) := by decide +kernel
theorem dX9_init_31 : decode cX9_init 31 = .ok (.iconst 0, 1) := by decide +kernel
theorem dX9_init_32 : decode cX9_init 32 = .ok (.putfield 25, 3) := by decide +kernel
theorem dX9_init_35 : decode cX9_init 35 = .ok (.aload_n 0, 1) := by decide +kernel
theorem dX9_init_36 : decode cX9_init 36 = .ok (.iconst 0, 1) := by decide +kernel
theorem dX9_init_37 : decode cX9_init 37 = .ok (.putfield 28, 3) := by decide +kernel
theorem dX9_init_40 : decode cX9_init 40 = .ok (.aload_n 0, 1) := by decide +kernel
theorem dX9_init_41 : decode cX9_init 41 = .ok (.iconst 0, 1) := by decide +kernel
theorem dX9_init_42 : decode cX9_init 42 = .ok (.putfield 32, 3) := by decide +kernel
theorem dX9_init_45 : decode cX9_init 45 = .ok (.aload_n 0, 1) := by decide +kernel
theorem dX9_init_46 : decode cX9_init 46 = .ok (.iconst 0, 1) := by decide +kernel
theorem dX9_init_47 : decode cX9_init 47 = .ok (.putfield 35, 3) := by decide +kernel
theorem dX9_init_50 : decode cX9_init 50 = .ok (.aload_n 0, 1) := by decide +kernel
theorem dX9_init_51 : decode cX9_init 51 = .ok (.sipush 192, 3) := by decide +kernel
theorem dX9_init_54 : decode cX9_init 54 = .ok (.newarray .int, 2) := by decide +kernel
theorem dX9_init_56 : decode cX9_init 56 = .ok (.putfield 40, 3) := by decide +kernel
theorem dX9_init_59 : decode cX9_init 59 = .ok (.aload_n 0, 1) := by decide +kernel
theorem dX9_init_60 : decode cX9_init 60 = .ok (.sipush 192, 3) := by decide +kernel
theorem dX9_init_63 : decode cX9_init 63 = .ok (.newarray .int, 2) := by decide +kernel
theorem dX9_init_65 : decode cX9_init 65 = .ok (.putfield 44, 3) := by decide +kernel
theorem dX9_init_68 : decode cX9_init 68 = .ok (.return_, 1) := by decide +kernel
end
section
def B_c_X5_init (G : va_G) (cy : Nat → ClassId) (sk : Nat → Nat) (A : Nat → Prop) (h0 : Nat) (mI : Int32) (n : Nat) (H : Heap) : Prop := ∃ (ra : Nat), va_P G classes [(h0, .inr (5, [.ref ra, .int 0])), (ra, .inl (cy 0, n, .inl (fun _ => 0)))] H ∧ va_D A [(h0, .inr (5, [.ref ra, .int 0])), (ra, .inl (cy 0, n, .inl (fun _ => 0)))]
set_option maxHeartbeats 4000000 in
set_option maxRecDepth 100000 in
theorem c_X5_init (l : Launch) (G : va_G) (cy : Nat → ClassId) (sk : Nat → Nat) (sz : Nat) (h0 : Nat) (mI : Int32) (n : Nat) (hm : mI = nI n) (hn : n ≤ 100) : Met l yX5_init (wsO yX5_init cX5_init 2 none) ({ frames := 1, cells := 1, slots := 100, locals := 14 }) (va_Pc [.ref h0, .int mI] (PR G cy sk sz [(h0, .inr (5, [.null, .int 0]))])) (va_Qv (fun (_ : Unit) => True) (fun _ t => B_c_X5_init G cy sk (va_A [(h0, .inr (5, [.null, .int 0]))] sz) h0 mI n t.heap) (va_A [(h0, .inr (5, [.null, .int 0]))] sz)) 1 100 (va_A [(h0, .inr (5, [.null, .int 0]))] sz) := by
  refine mt (by decide) (Nat.le_of_ble_eq_true rfl) ?_
  intro p e s m below meth c ls hx hb hr hml hts hown hlocks hin hsz hP hE hD hl
  subst hsz
  have hl : lv_has ls 2 [(0, .ref h0), (1, .int mI)] := hl
  subst hm
  have hl : lv_has ls 2 [(0, .ref h0), (1, .int (nI n))] := hl
  have hD := hD.self (sz := s.heap.size)
  generalize hAe : va_A [(h0, .inr (5, [.null, .int 0]))] s.heap.size = A at hD ⊢
  have hA : ∀ q : Nat, s.heap.size ≤ q → A q := fun q h => by rw [← hAe]; exact Or.inr h
  have hS : va_S A s.heap s.heap [] := va_S.rf
  refine lv_aload_n hx hb dX5_init_0 rfl (lv_at hl 0 rfl) ?_
  refine W.objInit hx hb hown (hts _ m_204) (hts _ m_107) (hts _ m_108) rfl (by rw [hml]; exact hl.1) rfl dX5_init_1 (Nat.le_of_ble_eq_true rfl) (Nat.le_of_ble_eq_true rfl) ?_
  refine W.eq (g2 := F0 m 4 ls []) rfl ?_
  refine lv_aload_n hx hb dX5_init_4 rfl (lv_at hl 0 rfl) ?_
  refine lv_iconst (v := 0) hx hb dX5_init_5 (by decide) ?_
  refine va_put (D := G) (ci := 5) (v := .int 0) (ty := .int) (C := RX5) (T := TX5) (N := 2) hx hb hts inB5 tyX5 tyX5_ok nmX5 hown hE.1 hP hD hS 0 rfl rfl 1 (by decide) (hts _ m_209) (fun _ h9 => h9) rfl (by decide +kernel) rfl rfl (Nat.le_of_ble_eq_true rfl) dX5_init_6 (fun H locs hP hD hS => ?_)
  have hP : va_P G classes [(h0, .inr (5, [.null, .int 0]))] H := hP
  refine lv_aload_n hx hb dX5_init_9 rfl (lv_at hl 0 rfl) ?_
  refine lv_iconst (v := 0) hx hb dX5_init_10 (by decide) ?_
  refine lv_iload_n hx hb dX5_init_11 rfl (lv_at hl 1 rfl) ?_
  refine va_mmax hx hb (hml.trans hl.1.symm) hown (hts _ m_205) (hts _ m_206) (hts _ m_86) (hts _ m_207) (Nat.le_of_ble_eq_true rfl) (Nat.le_of_ble_eq_true rfl) (Nat.le_of_ble_eq_true rfl) (Nat.le_of_ble_eq_true rfl) dX5_init_12 ?_
  refine tp (v := (nI n)) (mx0 (by omega)) ?_
  refine nwI (n := (nI n)) (N := n) hx hb hts m_146 hE hP hD hS hA (nI_pos (by omega)) (nI_clamp (by omega)) (by omega) (Nat.le_of_ble_eq_true rfl) (by show 0 + n ≤ 100; omega) dX5_init_15 (fun nq1 H hP hD hS => ?_)
  have hP : va_P G classes [(h0, .inr (5, [.null, .int 0])), (nq1, .inl (cy 0, n, .inl (fun _ => 0)))] H := hP
  refine va_putF (D := G) (ci := 5) (v := .ref nq1) (ty := (.array .int)) (C := RX5) (T := TX5) (N := 2) hx hb hts inB5 tyX5 tyX5_ok nmX5 hown hE.1 hP hD hS 0 rfl rfl 0 (by decide) (hts _ m_208) (fun _ h9 => h9) rfl hin rfl (by decide +kernel) rfl rfl (Nat.le_of_ble_eq_true rfl) dX5_init_17 (fun H locs hP hD hS => ?_)
  have hP : va_P G classes [(h0, .inr (5, [.ref nq1, .int 0])), (nq1, .inl (cy 0, n, .inl (fun _ => 0)))] H := hP
  have hP9 : va_P G classes [(h0, .inr (5, [.ref nq1, .int 0])), (nq1, .inl (cy 0, n, .inl (fun _ => 0)))] H := hP
  have hD9 : va_D A [(h0, .inr (5, [.ref nq1, .int 0])), (nq1, .inl (cy 0, n, .inl (fun _ => 0)))] := hD
  refine W.widen (k := 1) (n := 100) (by first | exact Nat.le_of_ble_eq_true rfl | omega) (by first | exact Nat.le_of_ble_eq_true rfl | omega) ?_
  exact W.vret hx hb hr (fun t ht hW => ⟨⟨(), rfl, trivial, by dsimp only; rw [ht]; exact ⟨nq1, hP9, hD9⟩⟩, hS.F ht⟩) hS.2.2 dX5_init_20
def B_c_X1_init (G : va_G) (cy : Nat → ClassId) (sk : Nat → Nat) (A : Nat → Prop) (h0 : Nat) (H : Heap) : Prop := ∃ (co : Nat) (ck : Nat), va_P G classes [(h0, .inr (1, [.ref co, .ref ck, .int 0])), (co, .inl (cy 0, 48, .inl (fun _ => 0))), (ck, .inl (cy 0, 48, .inl (fun _ => 0)))] H ∧ va_D A [(h0, .inr (1, [.ref co, .ref ck, .int 0])), (co, .inl (cy 0, 48, .inl (fun _ => 0))), (ck, .inl (cy 0, 48, .inl (fun _ => 0)))]
set_option maxHeartbeats 4000000 in
set_option maxRecDepth 100000 in
theorem c_X1_init (l : Launch) (G : va_G) (cy : Nat → ClassId) (sk : Nat → Nat) (sz : Nat) (h0 : Nat)  : Met l yX1_init (wsO yX1_init cX1_init 1 none) ({ frames := 1, cells := 2, slots := 96, locals := 12 }) (va_Pc [.ref h0] (PR G cy sk sz [(h0, .inr (1, [.null, .null, .int 0]))])) (va_Qv (fun (_ : Unit) => True) (fun _ t => B_c_X1_init G cy sk (va_A [(h0, .inr (1, [.null, .null, .int 0]))] sz) h0 t.heap) (va_A [(h0, .inr (1, [.null, .null, .int 0]))] sz)) 2 96 (va_A [(h0, .inr (1, [.null, .null, .int 0]))] sz) := by
  refine mt (by decide) (Nat.le_of_ble_eq_true rfl) ?_
  intro p e s m below meth c ls hx hb hr hml hts hown hlocks hin hsz hP hE hD hl
  subst hsz
  have hl : lv_has ls 1 [(0, .ref h0)] := hl
  have hD := hD.self (sz := s.heap.size)
  generalize hAe : va_A [(h0, .inr (1, [.null, .null, .int 0]))] s.heap.size = A at hD ⊢
  have hA : ∀ q : Nat, s.heap.size ≤ q → A q := fun q h => by rw [← hAe]; exact Or.inr h
  have hS : va_S A s.heap s.heap [] := va_S.rf
  refine lv_aload_n hx hb dX1_init_0 rfl (lv_at hl 0 rfl) ?_
  refine W.objInit hx hb hown (hts _ m_159) (hts _ m_107) (hts _ m_108) rfl (by rw [hml]; exact hl.1) rfl dX1_init_1 (Nat.le_of_ble_eq_true rfl) (Nat.le_of_ble_eq_true rfl) ?_
  refine W.eq (g2 := F0 m 4 ls []) rfl ?_
  refine lv_aload_n hx hb dX1_init_4 rfl (lv_at hl 0 rfl) ?_
  refine lv_bipush (v := 48) hx hb dX1_init_5 (by decide) ?_
  refine nwI (n := 48) (N := 48) hx hb hts m_146 hE hP hD hS hA (by decide) (by decide) (Nat.le_of_ble_eq_true rfl) (Nat.le_of_ble_eq_true rfl) (Nat.le_of_ble_eq_true rfl) dX1_init_7 (fun nq1 H hP hD hS => ?_)
  have hP : va_P G classes [(h0, .inr (1, [.null, .null, .int 0])), (nq1, .inl (cy 0, 48, .inl (fun _ => 0)))] H := hP
  refine va_putF (D := G) (ci := 1) (v := .ref nq1) (ty := (.array .int)) (C := RX1) (T := TX1) (N := 3) hx hb hts inB1 tyX1 tyX1_ok nmX1 hown hE.1 hP hD hS 0 rfl rfl 0 (by decide) (hts _ m_160) (fun _ h9 => h9) rfl hin rfl (by decide +kernel) rfl rfl (Nat.le_of_ble_eq_true rfl) dX1_init_9 (fun H locs hP hD hS => ?_)
  have hP : va_P G classes [(h0, .inr (1, [.ref nq1, .null, .int 0])), (nq1, .inl (cy 0, 48, .inl (fun _ => 0)))] H := hP
  refine lv_aload_n hx hb dX1_init_12 rfl (lv_at hl 0 rfl) ?_
  refine lv_bipush (v := 48) hx hb dX1_init_13 (by decide) ?_
  refine nwI (n := 48) (N := 48) hx hb hts m_146 hE hP hD hS hA (by decide) (by decide) (Nat.le_of_ble_eq_true rfl) (Nat.le_of_ble_eq_true rfl) (Nat.le_of_ble_eq_true rfl) dX1_init_15 (fun nq2 H hP hD hS => ?_)
  have hP : va_P G classes [(h0, .inr (1, [.ref nq1, .null, .int 0])), (nq1, .inl (cy 0, 48, .inl (fun _ => 0))), (nq2, .inl (cy 0, 48, .inl (fun _ => 0)))] H := hP
  refine va_putF (D := G) (ci := 1) (v := .ref nq2) (ty := (.array .int)) (C := RX1) (T := TX1) (N := 3) hx hb hts inB1 tyX1 tyX1_ok nmX1 hown hE.1 hP hD hS 0 rfl rfl 1 (by decide) (hts _ m_161) (fun _ h9 => h9) rfl hin rfl (by decide +kernel) rfl rfl (Nat.le_of_ble_eq_true rfl) dX1_init_17 (fun H locs hP hD hS => ?_)
  have hP : va_P G classes [(h0, .inr (1, [.ref nq1, .ref nq2, .int 0])), (nq1, .inl (cy 0, 48, .inl (fun _ => 0))), (nq2, .inl (cy 0, 48, .inl (fun _ => 0)))] H := hP
  refine lv_aload_n hx hb dX1_init_20 rfl (lv_at hl 0 rfl) ?_
  refine lv_iconst (v := 0) hx hb dX1_init_21 (by decide) ?_
  refine va_put (D := G) (ci := 1) (v := .int 0) (ty := .int) (C := RX1) (T := TX1) (N := 3) hx hb hts inB1 tyX1 tyX1_ok nmX1 hown hE.1 hP hD hS 0 rfl rfl 2 (by decide) (hts _ m_162) (fun _ h9 => h9) rfl (by decide +kernel) rfl rfl (Nat.le_of_ble_eq_true rfl) dX1_init_22 (fun H locs hP hD hS => ?_)
  have hP : va_P G classes [(h0, .inr (1, [.ref nq1, .ref nq2, .int 0])), (nq1, .inl (cy 0, 48, .inl (fun _ => 0))), (nq2, .inl (cy 0, 48, .inl (fun _ => 0)))] H := hP
  have hP9 : va_P G classes [(h0, .inr (1, [.ref nq1, .ref nq2, .int 0])), (nq1, .inl (cy 0, 48, .inl (fun _ => 0))), (nq2, .inl (cy 0, 48, .inl (fun _ => 0)))] H := hP
  have hD9 : va_D A [(h0, .inr (1, [.ref nq1, .ref nq2, .int 0])), (nq1, .inl (cy 0, 48, .inl (fun _ => 0))), (nq2, .inl (cy 0, 48, .inl (fun _ => 0)))] := hD
  refine W.widen (k := 2) (n := 96) (by first | exact Nat.le_of_ble_eq_true rfl | omega) (by first | exact Nat.le_of_ble_eq_true rfl | omega) ?_
  exact W.vret hx hb hr (fun t ht hW => ⟨⟨(), rfl, trivial, by dsimp only; rw [ht]; exact ⟨nq1, nq2, hP9, hD9⟩⟩, hS.F ht⟩) hS.2.2 dX1_init_25
def B_c_X7_init (G : va_G) (cy : Nat → ClassId) (sk : Nat → Nat) (A : Nat → Prop) (h0 : Nat) (H : Heap) : Prop := ∃ (oc : Nat) (ki : Nat) (ce : Nat) (si : Nat) (sp : Nat) (foc : Nat → Int32), (∀ j, j < 192 → foc j = (-1)) ∧ va_P G classes [(h0, .inr (7, [.ref oc, .ref ki, .ref ce, .ref si, .ref sp, .int 0])), (oc, .inl (cy 0, 192, .inl foc)), (ki, .inl (cy 0, 40, .inl (fun _ => 0))), (ce, .inl (cy 0, 40, .inl (fun _ => 0))), (si, .inl (cy 0, 40, .inl (fun _ => 0))), (sp, .inl (cy 0, 40, .inl (fun _ => 0)))] H ∧ va_D A [(h0, .inr (7, [.ref oc, .ref ki, .ref ce, .ref si, .ref sp, .int 0])), (oc, .inl (cy 0, 192, .inl foc)), (ki, .inl (cy 0, 40, .inl (fun _ => 0))), (ce, .inl (cy 0, 40, .inl (fun _ => 0))), (si, .inl (cy 0, 40, .inl (fun _ => 0))), (sp, .inl (cy 0, 40, .inl (fun _ => 0)))]
set_option maxHeartbeats 4000000 in
set_option maxRecDepth 100000 in
theorem c_X7_init (l : Launch) (G : va_G) (cy : Nat → ClassId) (sk : Nat → Nat) (sz : Nat) (h0 : Nat)  : Met l yX7_init (wsO yX7_init cX7_init 2 none) ({ frames := 1, cells := 5, slots := 352, locals := 12 }) (va_Pc [.ref h0] (PR G cy sk sz [(h0, .inr (7, [.null, .null, .null, .null, .null, .int 0]))])) (va_Qv (fun (_ : Unit) => True) (fun _ t => B_c_X7_init G cy sk (va_A [(h0, .inr (7, [.null, .null, .null, .null, .null, .int 0]))] sz) h0 t.heap) (va_A [(h0, .inr (7, [.null, .null, .null, .null, .null, .int 0]))] sz)) 5 352 (va_A [(h0, .inr (7, [.null, .null, .null, .null, .null, .int 0]))] sz) := by
  refine mt (by decide) (Nat.le_of_ble_eq_true rfl) ?_
  intro p e s m below meth c ls hx hb hr hml hts hown hlocks hin hsz hP hE hD hl
  subst hsz
  have hl : lv_has ls 2 [(0, .ref h0)] := hl
  have hD := hD.self (sz := s.heap.size)
  generalize hAe : va_A [(h0, .inr (7, [.null, .null, .null, .null, .null, .int 0]))] s.heap.size = A at hD ⊢
  have hA : ∀ q : Nat, s.heap.size ≤ q → A q := fun q h => by rw [← hAe]; exact Or.inr h
  have hS : va_S A s.heap s.heap [] := va_S.rf
  refine lv_aload_n hx hb dX7_init_0 rfl (lv_at hl 0 rfl) ?_
  refine W.objInit hx hb hown (hts _ m_120) (hts _ m_107) (hts _ m_108) rfl (by rw [hml]; exact hl.1) rfl dX7_init_1 (Nat.le_of_ble_eq_true rfl) (Nat.le_of_ble_eq_true rfl) ?_
  refine W.eq (g2 := F0 m 4 ls []) rfl ?_
  refine lv_aload_n hx hb dX7_init_4 rfl (lv_at hl 0 rfl) ?_
  refine lv_sipush (v := 192) hx hb dX7_init_5 (by decide) ?_
  refine nwI (n := 192) (N := 192) hx hb hts m_146 hE hP hD hS hA (by decide) (by decide) (Nat.le_of_ble_eq_true rfl) (Nat.le_of_ble_eq_true rfl) (Nat.le_of_ble_eq_true rfl) dX7_init_8 (fun nq1 H hP hD hS => ?_)
  have hP : va_P G classes [(h0, .inr (7, [.null, .null, .null, .null, .null, .int 0])), (nq1, .inl (cy 0, 192, .inl (fun _ => 0)))] H := hP
  refine va_putF (D := G) (ci := 7) (v := .ref nq1) (ty := (.array .int)) (C := RX7) (T := TX7) (N := 6) hx hb hts inB7 tyX7 tyX7_ok nmX7 hown hE.1 hP hD hS 0 rfl rfl 0 (by decide) (hts _ m_121) (fun _ h9 => h9) rfl hin rfl (by decide +kernel) rfl rfl (Nat.le_of_ble_eq_true rfl) dX7_init_10 (fun H locs hP hD hS => ?_)
  have hP : va_P G classes [(h0, .inr (7, [.ref nq1, .null, .null, .null, .null, .int 0])), (nq1, .inl (cy 0, 192, .inl (fun _ => 0)))] H := hP
  refine lv_aload_n hx hb dX7_init_13 rfl (lv_at hl 0 rfl) ?_
  refine lv_bipush (v := 40) hx hb dX7_init_14 (by decide) ?_
  refine nwI (n := 40) (N := 40) hx hb hts m_146 hE hP hD hS hA (by decide) (by decide) (Nat.le_of_ble_eq_true rfl) (Nat.le_of_ble_eq_true rfl) (Nat.le_of_ble_eq_true rfl) dX7_init_16 (fun nq2 H hP hD hS => ?_)
  have hP : va_P G classes [(h0, .inr (7, [.ref nq1, .null, .null, .null, .null, .int 0])), (nq1, .inl (cy 0, 192, .inl (fun _ => 0))), (nq2, .inl (cy 0, 40, .inl (fun _ => 0)))] H := hP
  refine va_putF (D := G) (ci := 7) (v := .ref nq2) (ty := (.array .int)) (C := RX7) (T := TX7) (N := 6) hx hb hts inB7 tyX7 tyX7_ok nmX7 hown hE.1 hP hD hS 0 rfl rfl 1 (by decide) (hts _ m_124) (fun _ h9 => h9) rfl hin rfl (by decide +kernel) rfl rfl (Nat.le_of_ble_eq_true rfl) dX7_init_18 (fun H locs hP hD hS => ?_)
  have hP : va_P G classes [(h0, .inr (7, [.ref nq1, .ref nq2, .null, .null, .null, .int 0])), (nq1, .inl (cy 0, 192, .inl (fun _ => 0))), (nq2, .inl (cy 0, 40, .inl (fun _ => 0)))] H := hP
  refine lv_aload_n hx hb dX7_init_21 rfl (lv_at hl 0 rfl) ?_
  refine lv_bipush (v := 40) hx hb dX7_init_22 (by decide) ?_
  refine nwI (n := 40) (N := 40) hx hb hts m_146 hE hP hD hS hA (by decide) (by decide) (Nat.le_of_ble_eq_true rfl) (Nat.le_of_ble_eq_true rfl) (Nat.le_of_ble_eq_true rfl) dX7_init_24 (fun nq3 H hP hD hS => ?_)
  have hP : va_P G classes [(h0, .inr (7, [.ref nq1, .ref nq2, .null, .null, .null, .int 0])), (nq1, .inl (cy 0, 192, .inl (fun _ => 0))), (nq2, .inl (cy 0, 40, .inl (fun _ => 0))), (nq3, .inl (cy 0, 40, .inl (fun _ => 0)))] H := hP
  refine va_putF (D := G) (ci := 7) (v := .ref nq3) (ty := (.array .int)) (C := RX7) (T := TX7) (N := 6) hx hb hts inB7 tyX7 tyX7_ok nmX7 hown hE.1 hP hD hS 0 rfl rfl 2 (by decide) (hts _ m_126) (fun _ h9 => h9) rfl hin rfl (by decide +kernel) rfl rfl (Nat.le_of_ble_eq_true rfl) dX7_init_26 (fun H locs hP hD hS => ?_)
  have hP : va_P G classes [(h0, .inr (7, [.ref nq1, .ref nq2, .ref nq3, .null, .null, .int 0])), (nq1, .inl (cy 0, 192, .inl (fun _ => 0))), (nq2, .inl (cy 0, 40, .inl (fun _ => 0))), (nq3, .inl (cy 0, 40, .inl (fun _ => 0)))] H := hP
  refine lv_aload_n hx hb dX7_init_29 rfl (lv_at hl 0 rfl) ?_
  refine lv_bipush (v := 40) hx hb dX7_init_30 (by decide) ?_
  refine nwI (n := 40) (N := 40) hx hb hts m_146 hE hP hD hS hA (by decide) (by decide) (Nat.le_of_ble_eq_true rfl) (Nat.le_of_ble_eq_true rfl) (Nat.le_of_ble_eq_true rfl) dX7_init_32 (fun nq4 H hP hD hS => ?_)
  have hP : va_P G classes [(h0, .inr (7, [.ref nq1, .ref nq2, .ref nq3, .null, .null, .int 0])), (nq1, .inl (cy 0, 192, .inl (fun _ => 0))), (nq2, .inl (cy 0, 40, .inl (fun _ => 0))), (nq3, .inl (cy 0, 40, .inl (fun _ => 0))), (nq4, .inl (cy 0, 40, .inl (fun _ => 0)))] H := hP
  refine va_putF (D := G) (ci := 7) (v := .ref nq4) (ty := (.array .int)) (C := RX7) (T := TX7) (N := 6) hx hb hts inB7 tyX7 tyX7_ok nmX7 hown hE.1 hP hD hS 0 rfl rfl 3 (by decide) (hts _ m_128) (fun _ h9 => h9) rfl hin rfl (by decide +kernel) rfl rfl (Nat.le_of_ble_eq_true rfl) dX7_init_34 (fun H locs hP hD hS => ?_)
  have hP : va_P G classes [(h0, .inr (7, [.ref nq1, .ref nq2, .ref nq3, .ref nq4, .null, .int 0])), (nq1, .inl (cy 0, 192, .inl (fun _ => 0))), (nq2, .inl (cy 0, 40, .inl (fun _ => 0))), (nq3, .inl (cy 0, 40, .inl (fun _ => 0))), (nq4, .inl (cy 0, 40, .inl (fun _ => 0)))] H := hP
  refine lv_aload_n hx hb dX7_init_37 rfl (lv_at hl 0 rfl) ?_
  refine lv_bipush (v := 40) hx hb dX7_init_38 (by decide) ?_
  refine nwI (n := 40) (N := 40) hx hb hts m_146 hE hP hD hS hA (by decide) (by decide) (Nat.le_of_ble_eq_true rfl) (Nat.le_of_ble_eq_true rfl) (Nat.le_of_ble_eq_true rfl) dX7_init_40 (fun nq5 H hP hD hS => ?_)
  have hP : va_P G classes [(h0, .inr (7, [.ref nq1, .ref nq2, .ref nq3, .ref nq4, .null, .int 0])), (nq1, .inl (cy 0, 192, .inl (fun _ => 0))), (nq2, .inl (cy 0, 40, .inl (fun _ => 0))), (nq3, .inl (cy 0, 40, .inl (fun _ => 0))), (nq4, .inl (cy 0, 40, .inl (fun _ => 0))), (nq5, .inl (cy 0, 40, .inl (fun _ => 0)))] H := hP
  refine va_putF (D := G) (ci := 7) (v := .ref nq5) (ty := (.array .int)) (C := RX7) (T := TX7) (N := 6) hx hb hts inB7 tyX7 tyX7_ok nmX7 hown hE.1 hP hD hS 0 rfl rfl 4 (by decide) (hts _ m_130) (fun _ h9 => h9) rfl hin rfl (by decide +kernel) rfl rfl (Nat.le_of_ble_eq_true rfl) dX7_init_42 (fun H locs hP hD hS => ?_)
  have hP : va_P G classes [(h0, .inr (7, [.ref nq1, .ref nq2, .ref nq3, .ref nq4, .ref nq5, .int 0])), (nq1, .inl (cy 0, 192, .inl (fun _ => 0))), (nq2, .inl (cy 0, 40, .inl (fun _ => 0))), (nq3, .inl (cy 0, 40, .inl (fun _ => 0))), (nq4, .inl (cy 0, 40, .inl (fun _ => 0))), (nq5, .inl (cy 0, 40, .inl (fun _ => 0)))] H := hP
  refine lv_aload_n hx hb dX7_init_45 rfl (lv_at hl 0 rfl) ?_
  refine lv_iconst (v := 0) hx hb dX7_init_46 (by decide) ?_
  refine va_put (D := G) (ci := 7) (v := .int 0) (ty := .int) (C := RX7) (T := TX7) (N := 6) hx hb hts inB7 tyX7 tyX7_ok nmX7 hown hE.1 hP hD hS 0 rfl rfl 5 (by decide) (hts _ m_132) (fun _ h9 => h9) rfl (by decide +kernel) rfl rfl (Nat.le_of_ble_eq_true rfl) dX7_init_47 (fun H locs hP hD hS => ?_)
  have hP : va_P G classes [(h0, .inr (7, [.ref nq1, .ref nq2, .ref nq3, .ref nq4, .ref nq5, .int 0])), (nq1, .inl (cy 0, 192, .inl (fun _ => 0))), (nq2, .inl (cy 0, 40, .inl (fun _ => 0))), (nq3, .inl (cy 0, 40, .inl (fun _ => 0))), (nq4, .inl (cy 0, 40, .inl (fun _ => 0))), (nq5, .inl (cy 0, 40, .inl (fun _ => 0)))] H := hP
  refine lv_iconst (v := 0) hx hb dX7_init_50 (by decide) ?_
  refine lv_istore_n (lv' := [(1, .int 0), (0, .ref h0)]) hx hb dX7_init_51 rfl hl (by decide) rfl (fun ls hl => ?_)
  have lp : ∀ (nn i : Nat), i ≤ 192 → 192 + 1 ≤ i + nn → ∀ (g : Nat → Int32), (∀ j, j < i → g j = (-1)) → ∀ (H : Heap) (locs : List Loc), va_P G classes [(h0, .inr (7, [.ref nq1, .ref nq2, .ref nq3, .ref nq4, .ref nq5, .int 0])), (nq1, .inl (cy 0, 192, .inl g)), (nq2, .inl (cy 0, 40, .inl (fun _ => 0))), (nq3, .inl (cy 0, 40, .inl (fun _ => 0))), (nq4, .inl (cy 0, 40, .inl (fun _ => 0))), (nq5, .inl (cy 0, 40, .inl (fun _ => 0)))] H → va_D A [(h0, .inr (7, [.ref nq1, .ref nq2, .ref nq3, .ref nq4, .ref nq5, .int 0])), (nq1, .inl (cy 0, 192, .inl g)), (nq2, .inl (cy 0, 40, .inl (fun _ => 0))), (nq3, .inl (cy 0, 40, .inl (fun _ => 0))), (nq4, .inl (cy 0, 40, .inl (fun _ => 0))), (nq5, .inl (cy 0, 40, .inl (fun _ => 0)))] → va_S A s.heap H locs → ∀ (ls : Array Slot), lv_has ls 2 [(1, .int (nI i)), (0, .ref h0)] → W p l e (headSpec (wsO yX7_init cX7_init 2 none) ({ frames := 1, cells := 5, slots := 352, locals := 12 })).room s m [.ref h0].toArray below meth c H locs 5 352 (MQ below (va_Qv (fun (_ : Unit) => True) (fun _ t => B_c_X7_init G cy sk A h0 t.heap) A) [.ref h0].toArray s 5 352 A) (F0 m 52 ls []) := by
    intro nn
    induction nn with
    | zero => intro i h1 h2; exact absurd h2 (by omega)
    | succ nn ih =>
      intro i hi hin0 g hv0 H locs hP hD hS ls hl
      rcases Nat.lt_or_ge i 192 with hlt | hge
      · refine lv_iload_n hx hb dX7_init_52 rfl (lv_at hl 0 rfl) ?_
        refine lv_sipush (v := 192) hx hb dX7_init_53 (by decide) ?_
        refine lv_icmp_ge (tgt := 72) hx hb dX7_init_56 (by decide) (fun h9 => absurd h9 (nI_ge hlt (by decide))) (fun _ => ?_)
        refine lv_aload_n hx hb dX7_init_59 rfl (lv_at hl 1 rfl) ?_
        refine va_get (D := G) (ci := 7) (v := .ref nq1) (C := RX7) (T := TX7) (N := 6) hx hb hts inB7 hown hE.1 hP 0 rfl rfl 0 (by decide) (hts _ m_121) (fun _ h9 => h9) rfl dX7_init_60 ?_
        refine lv_iload_n hx hb dX7_init_63 rfl (lv_at hl 0 rfl) ?_
        refine lv_iconst (v := (-1)) hx hb dX7_init_64 (by decide) ?_
        refine va_iast hx hb hE.1 hP hD hS 1 0 rfl rfl (vp_in_nI hlt (by decide)) dX7_init_65 (fun H locs hP hD hS => ?_)
        have hP : va_P G classes [(h0, .inr (7, [.ref nq1, .ref nq2, .ref nq3, .ref nq4, .ref nq5, .int 0])), (nq1, .inl (cy 0, 192, .inl (upd g ((nI i)).toNatClampNeg (-1)))), (nq2, .inl (cy 0, 40, .inl (fun _ => 0))), (nq3, .inl (cy 0, 40, .inl (fun _ => 0))), (nq4, .inl (cy 0, 40, .inl (fun _ => 0))), (nq5, .inl (cy 0, 40, .inl (fun _ => 0)))] H := hP
        refine lv_iinc (v := (nI (i + 1))) (lv' := [(1, .int (nI (i + 1))), (0, .ref h0)]) hx hb dX7_init_66 hl (k := 0) rfl (nI_1 (i)) (by decide) rfl (fun ls hl => ?_)
        refine lv_goto (tgt := 52) hx hb dX7_init_69 (by decide) ?_
        exact ih (i + 1) hlt (by omega) _ (upd_all (by omega) hv0) _ _ hP hD hS ls (lv_sub hl [0, 1] rfl)
      · have hie : i = 192 := Nat.le_antisymm hi hge
        subst hie
        refine lv_iload_n hx hb dX7_init_52 rfl (lv_at hl 0 rfl) ?_
        refine lv_sipush (v := 192) hx hb dX7_init_53 (by decide) ?_
        refine lv_icmp_ge (tgt := 72) hx hb dX7_init_56 (by decide) (fun _ => ?_) (fun h9 => absurd (Int32.le_refl _) h9)
        have hP9 : va_P G classes [(h0, .inr (7, [.ref nq1, .ref nq2, .ref nq3, .ref nq4, .ref nq5, .int 0])), (nq1, .inl (cy 0, 192, .inl g)), (nq2, .inl (cy 0, 40, .inl (fun _ => 0))), (nq3, .inl (cy 0, 40, .inl (fun _ => 0))), (nq4, .inl (cy 0, 40, .inl (fun _ => 0))), (nq5, .inl (cy 0, 40, .inl (fun _ => 0)))] H := hP
        have hD9 : va_D A [(h0, .inr (7, [.ref nq1, .ref nq2, .ref nq3, .ref nq4, .ref nq5, .int 0])), (nq1, .inl (cy 0, 192, .inl g)), (nq2, .inl (cy 0, 40, .inl (fun _ => 0))), (nq3, .inl (cy 0, 40, .inl (fun _ => 0))), (nq4, .inl (cy 0, 40, .inl (fun _ => 0))), (nq5, .inl (cy 0, 40, .inl (fun _ => 0)))] := hD
        refine W.widen (k := 5) (n := 352) (by first | exact Nat.le_of_ble_eq_true rfl | omega) (by first | exact Nat.le_of_ble_eq_true rfl | omega) ?_
        exact W.vret hx hb hr (fun t ht hW => ⟨⟨(), rfl, trivial, by dsimp only; rw [ht]; exact ⟨nq1, nq2, nq3, nq4, nq5, g, hv0, hP9, hD9⟩⟩, hS.F ht⟩) hS.2.2 dX7_init_72
  exact lp (192 + 1) 0 (Nat.zero_le _) (by omega) _ (fun j h => absurd h (Nat.not_lt_zero _)) _ _ hP hD hS ls (lv_sub hl [0, 1] rfl)
def B_c_X9_init (G : va_G) (cy : Nat → ClassId) (sk : Nat → Nat) (A : Nat → Prop) (h0 : Nat) (H : Heap) : Prop := ∃ (ye : Nat) (no : Nat), va_P G classes [(h0, .inr (9, [.int 0, .int 0, .int 0, .int 5, .int 60, .int 0, .int 0, .int 0, .int 0, .ref ye, .ref no])), (ye, .inl (cy 0, 192, .inl (fun _ => 0))), (no, .inl (cy 0, 192, .inl (fun _ => 0)))] H ∧ va_D A [(h0, .inr (9, [.int 0, .int 0, .int 0, .int 5, .int 60, .int 0, .int 0, .int 0, .int 0, .ref ye, .ref no])), (ye, .inl (cy 0, 192, .inl (fun _ => 0))), (no, .inl (cy 0, 192, .inl (fun _ => 0)))]
set_option maxHeartbeats 4000000 in
set_option maxRecDepth 100000 in
theorem c_X9_init (l : Launch) (G : va_G) (cy : Nat → ClassId) (sk : Nat → Nat) (sz : Nat) (h0 : Nat)  : Met l yX9_init (wsO yX9_init cX9_init 1 none) ({ frames := 1, cells := 2, slots := 384, locals := 12 }) (va_Pc [.ref h0] (PR G cy sk sz [(h0, .inr (9, [.int 0, .int 0, .int 0, .int 0, .int 0, .int 0, .int 0, .int 0, .int 0, .null, .null]))])) (va_Qv (fun (_ : Unit) => True) (fun _ t => B_c_X9_init G cy sk (va_A [(h0, .inr (9, [.int 0, .int 0, .int 0, .int 0, .int 0, .int 0, .int 0, .int 0, .int 0, .null, .null]))] sz) h0 t.heap) (va_A [(h0, .inr (9, [.int 0, .int 0, .int 0, .int 0, .int 0, .int 0, .int 0, .int 0, .int 0, .null, .null]))] sz)) 2 384 (va_A [(h0, .inr (9, [.int 0, .int 0, .int 0, .int 0, .int 0, .int 0, .int 0, .int 0, .int 0, .null, .null]))] sz) := by
  refine mt (by decide) (Nat.le_of_ble_eq_true rfl) ?_
  intro p e s m below meth c ls hx hb hr hml hts hown hlocks hin hsz hP hE hD hl
  subst hsz
  have hl : lv_has ls 1 [(0, .ref h0)] := hl
  have hD := hD.self (sz := s.heap.size)
  generalize hAe : va_A [(h0, .inr (9, [.int 0, .int 0, .int 0, .int 0, .int 0, .int 0, .int 0, .int 0, .int 0, .null, .null]))] s.heap.size = A at hD ⊢
  have hA : ∀ q : Nat, s.heap.size ≤ q → A q := fun q h => by rw [← hAe]; exact Or.inr h
  have hS : va_S A s.heap s.heap [] := va_S.rf
  refine lv_aload_n hx hb dX9_init_0 rfl (lv_at hl 0 rfl) ?_
  refine W.objInit hx hb hown (hts _ m_257) (hts _ m_107) (hts _ m_108) rfl (by rw [hml]; exact hl.1) rfl dX9_init_1 (Nat.le_of_ble_eq_true rfl) (Nat.le_of_ble_eq_true rfl) ?_
  refine W.eq (g2 := F0 m 4 ls []) rfl ?_
  refine lv_aload_n hx hb dX9_init_4 rfl (lv_at hl 0 rfl) ?_
  refine lv_iconst (v := 0) hx hb dX9_init_5 (by decide) ?_
  refine va_put (D := G) (ci := 9) (v := .int 0) (ty := .int) (C := RX9) (T := TX9) (N := 11) hx hb hts inB9 tyX9 tyX9_ok nmX9 hown hE.1 hP hD hS 0 rfl rfl 0 (by decide) (hts _ m_258) (fun _ h9 => h9) rfl (by decide +kernel) rfl rfl (Nat.le_of_ble_eq_true rfl) dX9_init_6 (fun H locs hP hD hS => ?_)
  have hP : va_P G classes [(h0, .inr (9, [.int 0, .int 0, .int 0, .int 0, .int 0, .int 0, .int 0, .int 0, .int 0, .null, .null]))] H := hP
  refine lv_aload_n hx hb dX9_init_9 rfl (lv_at hl 0 rfl) ?_
  refine lv_iconst (v := 0) hx hb dX9_init_10 (by decide) ?_
  refine va_put (D := G) (ci := 9) (v := .int 0) (ty := .int) (C := RX9) (T := TX9) (N := 11) hx hb hts inB9 tyX9 tyX9_ok nmX9 hown hE.1 hP hD hS 0 rfl rfl 1 (by decide) (hts _ m_260) (fun _ h9 => h9) rfl (by decide +kernel) rfl rfl (Nat.le_of_ble_eq_true rfl) dX9_init_11 (fun H locs hP hD hS => ?_)
  have hP : va_P G classes [(h0, .inr (9, [.int 0, .int 0, .int 0, .int 0, .int 0, .int 0, .int 0, .int 0, .int 0, .null, .null]))] H := hP
  refine lv_aload_n hx hb dX9_init_14 rfl (lv_at hl 0 rfl) ?_
  refine lv_iconst (v := 0) hx hb dX9_init_15 (by decide) ?_
  refine va_put (D := G) (ci := 9) (v := .int 0) (ty := .int) (C := RX9) (T := TX9) (N := 11) hx hb hts inB9 tyX9 tyX9_ok nmX9 hown hE.1 hP hD hS 0 rfl rfl 2 (by decide) (hts _ m_264) (fun _ h9 => h9) rfl (by decide +kernel) rfl rfl (Nat.le_of_ble_eq_true rfl) dX9_init_16 (fun H locs hP hD hS => ?_)
  have hP : va_P G classes [(h0, .inr (9, [.int 0, .int 0, .int 0, .int 0, .int 0, .int 0, .int 0, .int 0, .int 0, .null, .null]))] H := hP
  refine lv_aload_n hx hb dX9_init_19 rfl (lv_at hl 0 rfl) ?_
  refine lv_iconst (v := 5) hx hb dX9_init_20 (by decide) ?_
  refine va_put (D := G) (ci := 9) (v := .int 5) (ty := .int) (C := RX9) (T := TX9) (N := 11) hx hb hts inB9 tyX9 tyX9_ok nmX9 hown hE.1 hP hD hS 0 rfl rfl 3 (by decide) (hts _ m_267) (fun _ h9 => h9) rfl (by decide +kernel) rfl rfl (Nat.le_of_ble_eq_true rfl) dX9_init_21 (fun H locs hP hD hS => ?_)
  have hP : va_P G classes [(h0, .inr (9, [.int 0, .int 0, .int 0, .int 5, .int 0, .int 0, .int 0, .int 0, .int 0, .null, .null]))] H := hP
  refine lv_aload_n hx hb dX9_init_24 rfl (lv_at hl 0 rfl) ?_
  refine lv_bipush (v := 60) hx hb dX9_init_25 (by decide) ?_
  refine va_put (D := G) (ci := 9) (v := .int 60) (ty := .int) (C := RX9) (T := TX9) (N := 11) hx hb hts inB9 tyX9 tyX9_ok nmX9 hown hE.1 hP hD hS 0 rfl rfl 4 (by decide) (hts _ m_270) (fun _ h9 => h9) rfl (by decide +kernel) rfl rfl (Nat.le_of_ble_eq_true rfl) dX9_init_27 (fun H locs hP hD hS => ?_)
  have hP : va_P G classes [(h0, .inr (9, [.int 0, .int 0, .int 0, .int 5, .int 60, .int 0, .int 0, .int 0, .int 0, .null, .null]))] H := hP
  refine lv_aload_n hx hb dX9_init_30 rfl (lv_at hl 0 rfl) ?_
  refine lv_iconst (v := 0) hx hb dX9_init_31 (by decide) ?_
  refine va_put (D := G) (ci := 9) (v := .int 0) (ty := .int) (C := RX9) (T := TX9) (N := 11) hx hb hts inB9 tyX9 tyX9_ok nmX9 hown hE.1 hP hD hS 0 rfl rfl 5 (by decide) (hts _ m_272) (fun _ h9 => h9) rfl (by decide +kernel) rfl rfl (Nat.le_of_ble_eq_true rfl) dX9_init_32 (fun H locs hP hD hS => ?_)
  have hP : va_P G classes [(h0, .inr (9, [.int 0, .int 0, .int 0, .int 5, .int 60, .int 0, .int 0, .int 0, .int 0, .null, .null]))] H := hP
  refine lv_aload_n hx hb dX9_init_35 rfl (lv_at hl 0 rfl) ?_
  refine lv_iconst (v := 0) hx hb dX9_init_36 (by decide) ?_
  refine va_put (D := G) (ci := 9) (v := .int 0) (ty := .boolean) (C := RX9) (T := TX9) (N := 11) hx hb hts inB9 tyX9 tyX9_ok nmX9 hown hE.1 hP hD hS 0 rfl rfl 6 (by decide) (hts _ m_275) (fun _ h9 => h9) rfl (by decide +kernel) rfl rfl (Nat.le_of_ble_eq_true rfl) dX9_init_37 (fun H locs hP hD hS => ?_)
  have hP : va_P G classes [(h0, .inr (9, [.int 0, .int 0, .int 0, .int 5, .int 60, .int 0, .int 0, .int 0, .int 0, .null, .null]))] H := hP
  refine lv_aload_n hx hb dX9_init_40 rfl (lv_at hl 0 rfl) ?_
  refine lv_iconst (v := 0) hx hb dX9_init_41 (by decide) ?_
  refine va_put (D := G) (ci := 9) (v := .int 0) (ty := .int) (C := RX9) (T := TX9) (N := 11) hx hb hts inB9 tyX9 tyX9_ok nmX9 hown hE.1 hP hD hS 0 rfl rfl 7 (by decide) (hts _ m_278) (fun _ h9 => h9) rfl (by decide +kernel) rfl rfl (Nat.le_of_ble_eq_true rfl) dX9_init_42 (fun H locs hP hD hS => ?_)
  have hP : va_P G classes [(h0, .inr (9, [.int 0, .int 0, .int 0, .int 5, .int 60, .int 0, .int 0, .int 0, .int 0, .null, .null]))] H := hP
  refine lv_aload_n hx hb dX9_init_45 rfl (lv_at hl 0 rfl) ?_
  refine lv_iconst (v := 0) hx hb dX9_init_46 (by decide) ?_
  refine va_put (D := G) (ci := 9) (v := .int 0) (ty := .int) (C := RX9) (T := TX9) (N := 11) hx hb hts inB9 tyX9 tyX9_ok nmX9 hown hE.1 hP hD hS 0 rfl rfl 8 (by decide) (hts _ m_280) (fun _ h9 => h9) rfl (by decide +kernel) rfl rfl (Nat.le_of_ble_eq_true rfl) dX9_init_47 (fun H locs hP hD hS => ?_)
  have hP : va_P G classes [(h0, .inr (9, [.int 0, .int 0, .int 0, .int 5, .int 60, .int 0, .int 0, .int 0, .int 0, .null, .null]))] H := hP
  refine lv_aload_n hx hb dX9_init_50 rfl (lv_at hl 0 rfl) ?_
  refine lv_sipush (v := 192) hx hb dX9_init_51 (by decide) ?_
  refine nwI (n := 192) (N := 192) hx hb hts m_146 hE hP hD hS hA (by decide) (by decide) (Nat.le_of_ble_eq_true rfl) (Nat.le_of_ble_eq_true rfl) (Nat.le_of_ble_eq_true rfl) dX9_init_54 (fun nq1 H hP hD hS => ?_)
  have hP : va_P G classes [(h0, .inr (9, [.int 0, .int 0, .int 0, .int 5, .int 60, .int 0, .int 0, .int 0, .int 0, .null, .null])), (nq1, .inl (cy 0, 192, .inl (fun _ => 0)))] H := hP
  refine va_putF (D := G) (ci := 9) (v := .ref nq1) (ty := (.array .int)) (C := RX9) (T := TX9) (N := 11) hx hb hts inB9 tyX9 tyX9_ok nmX9 hown hE.1 hP hD hS 0 rfl rfl 9 (by decide) (hts _ m_282) (fun _ h9 => h9) rfl hin rfl (by decide +kernel) rfl rfl (Nat.le_of_ble_eq_true rfl) dX9_init_56 (fun H locs hP hD hS => ?_)
  have hP : va_P G classes [(h0, .inr (9, [.int 0, .int 0, .int 0, .int 5, .int 60, .int 0, .int 0, .int 0, .int 0, .ref nq1, .null])), (nq1, .inl (cy 0, 192, .inl (fun _ => 0)))] H := hP
  refine lv_aload_n hx hb dX9_init_59 rfl (lv_at hl 0 rfl) ?_
  refine lv_sipush (v := 192) hx hb dX9_init_60 (by decide) ?_
  refine nwI (n := 192) (N := 192) hx hb hts m_146 hE hP hD hS hA (by decide) (by decide) (Nat.le_of_ble_eq_true rfl) (Nat.le_of_ble_eq_true rfl) (Nat.le_of_ble_eq_true rfl) dX9_init_63 (fun nq2 H hP hD hS => ?_)
  have hP : va_P G classes [(h0, .inr (9, [.int 0, .int 0, .int 0, .int 5, .int 60, .int 0, .int 0, .int 0, .int 0, .ref nq1, .null])), (nq1, .inl (cy 0, 192, .inl (fun _ => 0))), (nq2, .inl (cy 0, 192, .inl (fun _ => 0)))] H := hP
  refine va_putF (D := G) (ci := 9) (v := .ref nq2) (ty := (.array .int)) (C := RX9) (T := TX9) (N := 11) hx hb hts inB9 tyX9 tyX9_ok nmX9 hown hE.1 hP hD hS 0 rfl rfl 10 (by decide) (hts _ m_284) (fun _ h9 => h9) rfl hin rfl (by decide +kernel) rfl rfl (Nat.le_of_ble_eq_true rfl) dX9_init_65 (fun H locs hP hD hS => ?_)
  have hP : va_P G classes [(h0, .inr (9, [.int 0, .int 0, .int 0, .int 5, .int 60, .int 0, .int 0, .int 0, .int 0, .ref nq1, .ref nq2])), (nq1, .inl (cy 0, 192, .inl (fun _ => 0))), (nq2, .inl (cy 0, 192, .inl (fun _ => 0)))] H := hP
  have hP9 : va_P G classes [(h0, .inr (9, [.int 0, .int 0, .int 0, .int 5, .int 60, .int 0, .int 0, .int 0, .int 0, .ref nq1, .ref nq2])), (nq1, .inl (cy 0, 192, .inl (fun _ => 0))), (nq2, .inl (cy 0, 192, .inl (fun _ => 0)))] H := hP
  have hD9 : va_D A [(h0, .inr (9, [.int 0, .int 0, .int 0, .int 5, .int 60, .int 0, .int 0, .int 0, .int 0, .ref nq1, .ref nq2])), (nq1, .inl (cy 0, 192, .inl (fun _ => 0))), (nq2, .inl (cy 0, 192, .inl (fun _ => 0)))] := hD
  refine W.widen (k := 2) (n := 384) (by first | exact Nat.le_of_ble_eq_true rfl | omega) (by first | exact Nat.le_of_ble_eq_true rfl | omega) ?_
  exact W.vret hx hb hr (fun t ht hW => ⟨⟨(), rfl, trivial, by dsimp only; rw [ht]; exact ⟨nq1, nq2, hP9, hD9⟩⟩, hS.F ht⟩) hS.2.2 dX9_init_68
def B_c_X6_init (G : va_G) (cy : Nat → ClassId) (sk : Nat → Nat) (A : Nat → Prop) (h0 : Nat) (H : Heap) : Prop := ∃ (nu : Nat), va_P G classes [(h0, .inr (6, [.int 0, .int 0, .ref nu])), (nu, .inl (cy 0, 24, .inl (fun _ => 0)))] H ∧ va_D A [(h0, .inr (6, [.int 0, .int 0, .ref nu])), (nu, .inl (cy 0, 24, .inl (fun _ => 0)))]
set_option maxHeartbeats 4000000 in
set_option maxRecDepth 100000 in
theorem c_X6_init (l : Launch) (G : va_G) (cy : Nat → ClassId) (sk : Nat → Nat) (sz : Nat) (h0 : Nat)  : Met l yX6_init (wsO yX6_init cX6_init 1 none) ({ frames := 1, cells := 1, slots := 24, locals := 12 }) (va_Pc [.ref h0] (PR G cy sk sz [(h0, .inr (6, [.int 0, .int 0, .null]))])) (va_Qv (fun (_ : Unit) => True) (fun _ t => B_c_X6_init G cy sk (va_A [(h0, .inr (6, [.int 0, .int 0, .null]))] sz) h0 t.heap) (va_A [(h0, .inr (6, [.int 0, .int 0, .null]))] sz)) 1 24 (va_A [(h0, .inr (6, [.int 0, .int 0, .null]))] sz) := by
  refine mt (by decide) (Nat.le_of_ble_eq_true rfl) ?_
  intro p e s m below meth c ls hx hb hr hml hts hown hlocks hin hsz hP hE hD hl
  subst hsz
  have hl : lv_has ls 1 [(0, .ref h0)] := hl
  have hD := hD.self (sz := s.heap.size)
  generalize hAe : va_A [(h0, .inr (6, [.int 0, .int 0, .null]))] s.heap.size = A at hD ⊢
  have hA : ∀ q : Nat, s.heap.size ≤ q → A q := fun q h => by rw [← hAe]; exact Or.inr h
  have hS : va_S A s.heap s.heap [] := va_S.rf
  refine lv_aload_n hx hb dX6_init_0 rfl (lv_at hl 0 rfl) ?_
  refine W.objInit hx hb hown (hts _ m_444) (hts _ m_107) (hts _ m_108) rfl (by rw [hml]; exact hl.1) rfl dX6_init_1 (Nat.le_of_ble_eq_true rfl) (Nat.le_of_ble_eq_true rfl) ?_
  refine W.eq (g2 := F0 m 4 ls []) rfl ?_
  refine lv_aload_n hx hb dX6_init_4 rfl (lv_at hl 0 rfl) ?_
  refine lv_iconst (v := 0) hx hb dX6_init_5 (by decide) ?_
  refine va_put (D := G) (ci := 6) (v := .int 0) (ty := .int) (C := RX6) (T := TX6) (N := 3) hx hb hts inB6 tyX6 tyX6_ok nmX6 hown hE.1 hP hD hS 0 rfl rfl 0 (by decide) (hts _ m_445) (fun _ h9 => h9) rfl (by decide +kernel) rfl rfl (Nat.le_of_ble_eq_true rfl) dX6_init_6 (fun H locs hP hD hS => ?_)
  have hP : va_P G classes [(h0, .inr (6, [.int 0, .int 0, .null]))] H := hP
  refine lv_aload_n hx hb dX6_init_9 rfl (lv_at hl 0 rfl) ?_
  refine lv_iconst (v := 0) hx hb dX6_init_10 (by decide) ?_
  refine va_put (D := G) (ci := 6) (v := .int 0) (ty := .int) (C := RX6) (T := TX6) (N := 3) hx hb hts inB6 tyX6 tyX6_ok nmX6 hown hE.1 hP hD hS 0 rfl rfl 1 (by decide) (hts _ m_447) (fun _ h9 => h9) rfl (by decide +kernel) rfl rfl (Nat.le_of_ble_eq_true rfl) dX6_init_11 (fun H locs hP hD hS => ?_)
  have hP : va_P G classes [(h0, .inr (6, [.int 0, .int 0, .null]))] H := hP
  refine lv_aload_n hx hb dX6_init_14 rfl (lv_at hl 0 rfl) ?_
  refine lv_bipush (v := 24) hx hb dX6_init_15 (by decide) ?_
  refine nwI (n := 24) (N := 24) hx hb hts m_146 hE hP hD hS hA (by decide) (by decide) (Nat.le_of_ble_eq_true rfl) (Nat.le_of_ble_eq_true rfl) (Nat.le_of_ble_eq_true rfl) dX6_init_17 (fun nq1 H hP hD hS => ?_)
  have hP : va_P G classes [(h0, .inr (6, [.int 0, .int 0, .null])), (nq1, .inl (cy 0, 24, .inl (fun _ => 0)))] H := hP
  refine va_putF (D := G) (ci := 6) (v := .ref nq1) (ty := (.array .int)) (C := RX6) (T := TX6) (N := 3) hx hb hts inB6 tyX6 tyX6_ok nmX6 hown hE.1 hP hD hS 0 rfl rfl 2 (by decide) (hts _ m_450) (fun _ h9 => h9) rfl hin rfl (by decide +kernel) rfl rfl (Nat.le_of_ble_eq_true rfl) dX6_init_19 (fun H locs hP hD hS => ?_)
  have hP : va_P G classes [(h0, .inr (6, [.int 0, .int 0, .ref nq1])), (nq1, .inl (cy 0, 24, .inl (fun _ => 0)))] H := hP
  have hP9 : va_P G classes [(h0, .inr (6, [.int 0, .int 0, .ref nq1])), (nq1, .inl (cy 0, 24, .inl (fun _ => 0)))] H := hP
  have hD9 : va_D A [(h0, .inr (6, [.int 0, .int 0, .ref nq1])), (nq1, .inl (cy 0, 24, .inl (fun _ => 0)))] := hD
  refine W.widen (k := 1) (n := 24) (by first | exact Nat.le_of_ble_eq_true rfl | omega) (by first | exact Nat.le_of_ble_eq_true rfl | omega) ?_
  exact W.vret hx hb hr (fun t ht hW => ⟨⟨(), rfl, trivial, by dsimp only; rw [ht]; exact ⟨nq1, hP9, hD9⟩⟩, hS.F ht⟩) hS.2.2 dX6_init_22
def B_c_X3_init (G : va_G) (cy : Nat → ClassId) (sk : Nat → Nat) (A : Nat → Prop) (h0 : Nat) (H : Heap) : Prop := ∃ (te : Nat) (ne : Nat) (mi : Nat) (tr : Nat) (be : Nat) (rta7 : Nat) (rba7 : Nat), va_P G classes [(h0, .inr (3, [.ref te, .ref ne, .ref mi, .int 0, .ref tr, .ref be, .int 0, .int 0, .int 0])), (te, .inl (cy 0, 7, .inl (fun _ => 0))), (ne, .inl (cy 0, 7, .inl (fun _ => 0))), (mi, .inl (cy 0, 7, .inl (fun _ => 0))), (tr, .inr (5, [.ref rta7, .int 0])), (rta7, .inl (cy 0, 7, .inl (fun _ => 0))), (be, .inr (5, [.ref rba7, .int 0])), (rba7, .inl (cy 0, 7, .inl (fun _ => 0)))] H ∧ va_D A [(h0, .inr (3, [.ref te, .ref ne, .ref mi, .int 0, .ref tr, .ref be, .int 0, .int 0, .int 0])), (te, .inl (cy 0, 7, .inl (fun _ => 0))), (ne, .inl (cy 0, 7, .inl (fun _ => 0))), (mi, .inl (cy 0, 7, .inl (fun _ => 0))), (tr, .inr (5, [.ref rta7, .int 0])), (rta7, .inl (cy 0, 7, .inl (fun _ => 0))), (be, .inr (5, [.ref rba7, .int 0])), (rba7, .inl (cy 0, 7, .inl (fun _ => 0)))]
set_option maxHeartbeats 4000000 in
set_option maxRecDepth 100000 in
theorem c_X3_init (l : Launch) (G : va_G) (cy : Nat → ClassId) (sk : Nat → Nat) (sz : Nat) (h0 : Nat)  : Met l yX3_init (wsO yX3_init cX3_init 1 none) ({ frames := 2, cells := 7, slots := 225, locals := 35 }) (va_Pc [.ref h0] (PR G cy sk sz [(h0, .inr (3, [.null, .null, .null, .int 0, .null, .null, .int 0, .int 0, .int 0]))])) (va_Qv (fun (_ : Unit) => True) (fun _ t => B_c_X3_init G cy sk (va_A [(h0, .inr (3, [.null, .null, .null, .int 0, .null, .null, .int 0, .int 0, .int 0]))] sz) h0 t.heap) (va_A [(h0, .inr (3, [.null, .null, .null, .int 0, .null, .null, .int 0, .int 0, .int 0]))] sz)) 7 225 (va_A [(h0, .inr (3, [.null, .null, .null, .int 0, .null, .null, .int 0, .int 0, .int 0]))] sz) := by
  refine mt (by decide) (Nat.le_of_ble_eq_true rfl) ?_
  intro p e s m below meth c ls hx hb hr hml hts hown hlocks hin hsz hP hE hD hl
  subst hsz
  have hl : lv_has ls 1 [(0, .ref h0)] := hl
  have hD := hD.self (sz := s.heap.size)
  generalize hAe : va_A [(h0, .inr (3, [.null, .null, .null, .int 0, .null, .null, .int 0, .int 0, .int 0]))] s.heap.size = A at hD ⊢
  have hA : ∀ q : Nat, s.heap.size ≤ q → A q := fun q h => by rw [← hAe]; exact Or.inr h
  have hS : va_S A s.heap s.heap [] := va_S.rf
  refine lv_aload_n hx hb dX3_init_0 rfl (lv_at hl 0 rfl) ?_
  refine W.objInit hx hb hown (hts _ m_198) (hts _ m_107) (hts _ m_108) rfl (by rw [hml]; exact hl.1) rfl dX3_init_1 (Nat.le_of_ble_eq_true rfl) (Nat.le_of_ble_eq_true rfl) ?_
  refine W.eq (g2 := F0 m 4 ls []) rfl ?_
  refine lv_aload_n hx hb dX3_init_4 rfl (lv_at hl 0 rfl) ?_
  refine lv_bipush (v := 7) hx hb dX3_init_5 (by decide) ?_
  refine nwI (n := 7) (N := 7) hx hb hts m_146 hE hP hD hS hA (by decide) (by decide) (Nat.le_of_ble_eq_true rfl) (Nat.le_of_ble_eq_true rfl) (Nat.le_of_ble_eq_true rfl) dX3_init_7 (fun nq1 H hP hD hS => ?_)
  have hP : va_P G classes [(h0, .inr (3, [.null, .null, .null, .int 0, .null, .null, .int 0, .int 0, .int 0])), (nq1, .inl (cy 0, 7, .inl (fun _ => 0)))] H := hP
  refine va_putF (D := G) (ci := 3) (v := .ref nq1) (ty := (.array .int)) (C := RX3) (T := TX3) (N := 9) hx hb hts inB3 tyX3 tyX3_ok nmX3 hown hE.1 hP hD hS 0 rfl rfl 0 (by decide) (hts _ m_218) (fun _ h9 => h9) rfl hin rfl (by decide +kernel) rfl rfl (Nat.le_of_ble_eq_true rfl) dX3_init_9 (fun H locs hP hD hS => ?_)
  have hP : va_P G classes [(h0, .inr (3, [.ref nq1, .null, .null, .int 0, .null, .null, .int 0, .int 0, .int 0])), (nq1, .inl (cy 0, 7, .inl (fun _ => 0)))] H := hP
  refine lv_aload_n hx hb dX3_init_12 rfl (lv_at hl 0 rfl) ?_
  refine lv_bipush (v := 7) hx hb dX3_init_13 (by decide) ?_
  refine nwI (n := 7) (N := 7) hx hb hts m_146 hE hP hD hS hA (by decide) (by decide) (Nat.le_of_ble_eq_true rfl) (Nat.le_of_ble_eq_true rfl) (Nat.le_of_ble_eq_true rfl) dX3_init_15 (fun nq2 H hP hD hS => ?_)
  have hP : va_P G classes [(h0, .inr (3, [.ref nq1, .null, .null, .int 0, .null, .null, .int 0, .int 0, .int 0])), (nq1, .inl (cy 0, 7, .inl (fun _ => 0))), (nq2, .inl (cy 0, 7, .inl (fun _ => 0)))] H := hP
  refine va_putF (D := G) (ci := 3) (v := .ref nq2) (ty := (.array .int)) (C := RX3) (T := TX3) (N := 9) hx hb hts inB3 tyX3 tyX3_ok nmX3 hown hE.1 hP hD hS 0 rfl rfl 1 (by decide) (hts _ m_219) (fun _ h9 => h9) rfl hin rfl (by decide +kernel) rfl rfl (Nat.le_of_ble_eq_true rfl) dX3_init_17 (fun H locs hP hD hS => ?_)
  have hP : va_P G classes [(h0, .inr (3, [.ref nq1, .ref nq2, .null, .int 0, .null, .null, .int 0, .int 0, .int 0])), (nq1, .inl (cy 0, 7, .inl (fun _ => 0))), (nq2, .inl (cy 0, 7, .inl (fun _ => 0)))] H := hP
  refine lv_aload_n hx hb dX3_init_20 rfl (lv_at hl 0 rfl) ?_
  refine lv_bipush (v := 7) hx hb dX3_init_21 (by decide) ?_
  refine nwI (n := 7) (N := 7) hx hb hts m_146 hE hP hD hS hA (by decide) (by decide) (Nat.le_of_ble_eq_true rfl) (Nat.le_of_ble_eq_true rfl) (Nat.le_of_ble_eq_true rfl) dX3_init_23 (fun nq3 H hP hD hS => ?_)
  have hP : va_P G classes [(h0, .inr (3, [.ref nq1, .ref nq2, .null, .int 0, .null, .null, .int 0, .int 0, .int 0])), (nq1, .inl (cy 0, 7, .inl (fun _ => 0))), (nq2, .inl (cy 0, 7, .inl (fun _ => 0))), (nq3, .inl (cy 0, 7, .inl (fun _ => 0)))] H := hP
  refine va_putF (D := G) (ci := 3) (v := .ref nq3) (ty := (.array .int)) (C := RX3) (T := TX3) (N := 9) hx hb hts inB3 tyX3 tyX3_ok nmX3 hown hE.1 hP hD hS 0 rfl rfl 2 (by decide) (hts _ m_220) (fun _ h9 => h9) rfl hin rfl (by decide +kernel) rfl rfl (Nat.le_of_ble_eq_true rfl) dX3_init_25 (fun H locs hP hD hS => ?_)
  have hP : va_P G classes [(h0, .inr (3, [.ref nq1, .ref nq2, .ref nq3, .int 0, .null, .null, .int 0, .int 0, .int 0])), (nq1, .inl (cy 0, 7, .inl (fun _ => 0))), (nq2, .inl (cy 0, 7, .inl (fun _ => 0))), (nq3, .inl (cy 0, 7, .inl (fun _ => 0)))] H := hP
  refine lv_aload_n hx hb dX3_init_28 rfl (lv_at hl 0 rfl) ?_
  refine lv_iconst (v := 0) hx hb dX3_init_29 (by decide) ?_
  refine va_put (D := G) (ci := 3) (v := .int 0) (ty := .int) (C := RX3) (T := TX3) (N := 9) hx hb hts inB3 tyX3 tyX3_ok nmX3 hown hE.1 hP hD hS 0 rfl rfl 3 (by decide) (hts _ m_221) (fun _ h9 => h9) rfl (by decide +kernel) rfl rfl (Nat.le_of_ble_eq_true rfl) dX3_init_30 (fun H locs hP hD hS => ?_)
  have hP : va_P G classes [(h0, .inr (3, [.ref nq1, .ref nq2, .ref nq3, .int 0, .null, .null, .int 0, .int 0, .int 0])), (nq1, .inl (cy 0, 7, .inl (fun _ => 0))), (nq2, .inl (cy 0, 7, .inl (fun _ => 0))), (nq3, .inl (cy 0, 7, .inl (fun _ => 0)))] H := hP
  refine lv_aload_n hx hb dX3_init_33 rfl (lv_at hl 0 rfl) ?_
  refine va_new (ci := 5) (fs := [.null, .int 0]) (C := RX5) (T := TX5) (N := 2) hx hb hts inB5 tyX5 tyX5_ok hown (hts _ m_199) (hts _ m_200) (hts _ m_85) hE.1 hP hD hS hA rfl df5 (Nat.le_of_ble_eq_true rfl) (Nat.le_of_ble_eq_true rfl) dX3_init_34 (fun nq4 H hP hD hS => ?_)
  have hP : va_P G classes [(h0, .inr (3, [.ref nq1, .ref nq2, .ref nq3, .int 0, .null, .null, .int 0, .int 0, .int 0])), (nq1, .inl (cy 0, 7, .inl (fun _ => 0))), (nq2, .inl (cy 0, 7, .inl (fun _ => 0))), (nq3, .inl (cy 0, 7, .inl (fun _ => 0))), (nq4, .inr (5, [.null, .int 0]))] H := hP
  refine lv_dup hx hb dX3_init_37 rfl ?_
  refine lv_bipush (v := 7) hx hb dX3_init_38 (by decide) ?_
  refine wI (B := (B_c_X5_init G cy sk (va_A [(nq4, .inr (5, [.null, .int 0]))] H.size) nq4 7 7)) (wr := [(h0, .inr (3, [.ref nq1, .ref nq2, .ref nq3, .int 0, .null, .null, .int 0, .int 0, .int 0])), (nq1, .inl (cy 0, 7, .inl (fun _ => 0))), (nq2, .inl (cy 0, 7, .inl (fun _ => 0))), (nq3, .inl (cy 0, 7, .inl (fun _ => 0)))]) (rest := [.ref nq4, .ref h0]) hx hb hml hown hts hE (c_X5_init l G cy sk H.size nq4 7 7 rfl (by decide)) kI_X5_init m_201 rfl rfl ⟨(Nat.le_of_ble_eq_true rfl), (Nat.le_of_ble_eq_true rfl)⟩ hP hD hS hA [4] [0, 1, 2, 3] rfl rfl rfl rfl (by decide) rfl rfl hl.1 (Nat.le_of_ble_eq_true rfl) dX3_init_40 ⟨(Nat.le_of_ble_eq_true rfl), (Nat.le_of_ble_eq_true rfl)⟩ (fun H locs haf hS => ?_)
  obtain ⟨xq6, hP1, hD1⟩ := haf.1
  obtain ⟨hP, hD⟩ := haf.2.1 _ hP1 hD1
  have hP : va_P G classes [(h0, .inr (3, [.ref nq1, .ref nq2, .ref nq3, .int 0, .null, .null, .int 0, .int 0, .int 0])), (nq1, .inl (cy 0, 7, .inl (fun _ => 0))), (nq2, .inl (cy 0, 7, .inl (fun _ => 0))), (nq3, .inl (cy 0, 7, .inl (fun _ => 0))), (nq4, .inr (5, [.ref xq6, .int 0])), (xq6, .inl (cy 0, 7, .inl (fun _ => 0)))] H := hP
  refine va_putF (D := G) (ci := 3) (v := .ref nq4) (ty := (.object "ClickStreet$Row")) (C := RX3) (T := TX3) (N := 9) hx hb hts inB3 tyX3 tyX3_ok nmX3 hown hE.1 hP hD hS 0 rfl rfl 4 (by decide) (hts _ m_223) (fun _ h9 => h9) rfl hin rfl (by decide +kernel) rfl rfl (Nat.le_of_ble_eq_true rfl) dX3_init_43 (fun H locs hP hD hS => ?_)
  have hP : va_P G classes [(h0, .inr (3, [.ref nq1, .ref nq2, .ref nq3, .int 0, .ref nq4, .null, .int 0, .int 0, .int 0])), (nq1, .inl (cy 0, 7, .inl (fun _ => 0))), (nq2, .inl (cy 0, 7, .inl (fun _ => 0))), (nq3, .inl (cy 0, 7, .inl (fun _ => 0))), (nq4, .inr (5, [.ref xq6, .int 0])), (xq6, .inl (cy 0, 7, .inl (fun _ => 0)))] H := hP
  refine lv_aload_n hx hb dX3_init_46 rfl (lv_at hl 0 rfl) ?_
  refine va_new (ci := 5) (fs := [.null, .int 0]) (C := RX5) (T := TX5) (N := 2) hx hb hts inB5 tyX5 tyX5_ok hown (hts _ m_199) (hts _ m_200) (hts _ m_85) hE.1 hP hD hS hA rfl df5 (Nat.le_of_ble_eq_true rfl) (Nat.le_of_ble_eq_true rfl) dX3_init_47 (fun nq7 H hP hD hS => ?_)
  have hP : va_P G classes [(h0, .inr (3, [.ref nq1, .ref nq2, .ref nq3, .int 0, .ref nq4, .null, .int 0, .int 0, .int 0])), (nq1, .inl (cy 0, 7, .inl (fun _ => 0))), (nq2, .inl (cy 0, 7, .inl (fun _ => 0))), (nq3, .inl (cy 0, 7, .inl (fun _ => 0))), (nq4, .inr (5, [.ref xq6, .int 0])), (xq6, .inl (cy 0, 7, .inl (fun _ => 0))), (nq7, .inr (5, [.null, .int 0]))] H := hP
  refine lv_dup hx hb dX3_init_50 rfl ?_
  refine lv_bipush (v := 7) hx hb dX3_init_51 (by decide) ?_
  refine wI (B := (B_c_X5_init G cy sk (va_A [(nq7, .inr (5, [.null, .int 0]))] H.size) nq7 7 7)) (wr := [(h0, .inr (3, [.ref nq1, .ref nq2, .ref nq3, .int 0, .ref nq4, .null, .int 0, .int 0, .int 0])), (nq1, .inl (cy 0, 7, .inl (fun _ => 0))), (nq2, .inl (cy 0, 7, .inl (fun _ => 0))), (nq3, .inl (cy 0, 7, .inl (fun _ => 0))), (nq4, .inr (5, [.ref xq6, .int 0])), (xq6, .inl (cy 0, 7, .inl (fun _ => 0)))]) (rest := [.ref nq7, .ref h0]) hx hb hml hown hts hE (c_X5_init l G cy sk H.size nq7 7 7 rfl (by decide)) kI_X5_init m_201 rfl rfl ⟨(Nat.le_of_ble_eq_true rfl), (Nat.le_of_ble_eq_true rfl)⟩ hP hD hS hA [6] [0, 1, 2, 3, 4, 5] rfl rfl rfl rfl (by decide) rfl rfl hl.1 (Nat.le_of_ble_eq_true rfl) dX3_init_53 ⟨(Nat.le_of_ble_eq_true rfl), (Nat.le_of_ble_eq_true rfl)⟩ (fun H locs haf hS => ?_)
  obtain ⟨xq9, hP1, hD1⟩ := haf.1
  obtain ⟨hP, hD⟩ := haf.2.1 _ hP1 hD1
  have hP : va_P G classes [(h0, .inr (3, [.ref nq1, .ref nq2, .ref nq3, .int 0, .ref nq4, .null, .int 0, .int 0, .int 0])), (nq1, .inl (cy 0, 7, .inl (fun _ => 0))), (nq2, .inl (cy 0, 7, .inl (fun _ => 0))), (nq3, .inl (cy 0, 7, .inl (fun _ => 0))), (nq4, .inr (5, [.ref xq6, .int 0])), (xq6, .inl (cy 0, 7, .inl (fun _ => 0))), (nq7, .inr (5, [.ref xq9, .int 0])), (xq9, .inl (cy 0, 7, .inl (fun _ => 0)))] H := hP
  refine va_putF (D := G) (ci := 3) (v := .ref nq7) (ty := (.object "ClickStreet$Row")) (C := RX3) (T := TX3) (N := 9) hx hb hts inB3 tyX3 tyX3_ok nmX3 hown hE.1 hP hD hS 0 rfl rfl 5 (by decide) (hts _ m_224) (fun _ h9 => h9) rfl hin rfl (by decide +kernel) rfl rfl (Nat.le_of_ble_eq_true rfl) dX3_init_56 (fun H locs hP hD hS => ?_)
  have hP : va_P G classes [(h0, .inr (3, [.ref nq1, .ref nq2, .ref nq3, .int 0, .ref nq4, .ref nq7, .int 0, .int 0, .int 0])), (nq1, .inl (cy 0, 7, .inl (fun _ => 0))), (nq2, .inl (cy 0, 7, .inl (fun _ => 0))), (nq3, .inl (cy 0, 7, .inl (fun _ => 0))), (nq4, .inr (5, [.ref xq6, .int 0])), (xq6, .inl (cy 0, 7, .inl (fun _ => 0))), (nq7, .inr (5, [.ref xq9, .int 0])), (xq9, .inl (cy 0, 7, .inl (fun _ => 0)))] H := hP
  refine lv_aload_n hx hb dX3_init_59 rfl (lv_at hl 0 rfl) ?_
  refine lv_iconst (v := 0) hx hb dX3_init_60 (by decide) ?_
  refine va_put (D := G) (ci := 3) (v := .int 0) (ty := .int) (C := RX3) (T := TX3) (N := 9) hx hb hts inB3 tyX3 tyX3_ok nmX3 hown hE.1 hP hD hS 0 rfl rfl 6 (by decide) (hts _ m_226) (fun _ h9 => h9) rfl (by decide +kernel) rfl rfl (Nat.le_of_ble_eq_true rfl) dX3_init_61 (fun H locs hP hD hS => ?_)
  have hP : va_P G classes [(h0, .inr (3, [.ref nq1, .ref nq2, .ref nq3, .int 0, .ref nq4, .ref nq7, .int 0, .int 0, .int 0])), (nq1, .inl (cy 0, 7, .inl (fun _ => 0))), (nq2, .inl (cy 0, 7, .inl (fun _ => 0))), (nq3, .inl (cy 0, 7, .inl (fun _ => 0))), (nq4, .inr (5, [.ref xq6, .int 0])), (xq6, .inl (cy 0, 7, .inl (fun _ => 0))), (nq7, .inr (5, [.ref xq9, .int 0])), (xq9, .inl (cy 0, 7, .inl (fun _ => 0)))] H := hP
  refine lv_aload_n hx hb dX3_init_64 rfl (lv_at hl 0 rfl) ?_
  refine lv_iconst (v := 0) hx hb dX3_init_65 (by decide) ?_
  refine va_put (D := G) (ci := 3) (v := .int 0) (ty := .int) (C := RX3) (T := TX3) (N := 9) hx hb hts inB3 tyX3 tyX3_ok nmX3 hown hE.1 hP hD hS 0 rfl rfl 7 (by decide) (hts _ m_227) (fun _ h9 => h9) rfl (by decide +kernel) rfl rfl (Nat.le_of_ble_eq_true rfl) dX3_init_66 (fun H locs hP hD hS => ?_)
  have hP : va_P G classes [(h0, .inr (3, [.ref nq1, .ref nq2, .ref nq3, .int 0, .ref nq4, .ref nq7, .int 0, .int 0, .int 0])), (nq1, .inl (cy 0, 7, .inl (fun _ => 0))), (nq2, .inl (cy 0, 7, .inl (fun _ => 0))), (nq3, .inl (cy 0, 7, .inl (fun _ => 0))), (nq4, .inr (5, [.ref xq6, .int 0])), (xq6, .inl (cy 0, 7, .inl (fun _ => 0))), (nq7, .inr (5, [.ref xq9, .int 0])), (xq9, .inl (cy 0, 7, .inl (fun _ => 0)))] H := hP
  refine lv_aload_n hx hb dX3_init_69 rfl (lv_at hl 0 rfl) ?_
  refine lv_iconst (v := 0) hx hb dX3_init_70 (by decide) ?_
  refine va_put (D := G) (ci := 3) (v := .int 0) (ty := .boolean) (C := RX3) (T := TX3) (N := 9) hx hb hts inB3 tyX3 tyX3_ok nmX3 hown hE.1 hP hD hS 0 rfl rfl 8 (by decide) (hts _ m_229) (fun _ h9 => h9) rfl (by decide +kernel) rfl rfl (Nat.le_of_ble_eq_true rfl) dX3_init_71 (fun H locs hP hD hS => ?_)
  have hP : va_P G classes [(h0, .inr (3, [.ref nq1, .ref nq2, .ref nq3, .int 0, .ref nq4, .ref nq7, .int 0, .int 0, .int 0])), (nq1, .inl (cy 0, 7, .inl (fun _ => 0))), (nq2, .inl (cy 0, 7, .inl (fun _ => 0))), (nq3, .inl (cy 0, 7, .inl (fun _ => 0))), (nq4, .inr (5, [.ref xq6, .int 0])), (xq6, .inl (cy 0, 7, .inl (fun _ => 0))), (nq7, .inr (5, [.ref xq9, .int 0])), (xq9, .inl (cy 0, 7, .inl (fun _ => 0)))] H := hP
  have hP9 : va_P G classes [(h0, .inr (3, [.ref nq1, .ref nq2, .ref nq3, .int 0, .ref nq4, .ref nq7, .int 0, .int 0, .int 0])), (nq1, .inl (cy 0, 7, .inl (fun _ => 0))), (nq2, .inl (cy 0, 7, .inl (fun _ => 0))), (nq3, .inl (cy 0, 7, .inl (fun _ => 0))), (nq4, .inr (5, [.ref xq6, .int 0])), (xq6, .inl (cy 0, 7, .inl (fun _ => 0))), (nq7, .inr (5, [.ref xq9, .int 0])), (xq9, .inl (cy 0, 7, .inl (fun _ => 0)))] H := hP
  have hD9 : va_D A [(h0, .inr (3, [.ref nq1, .ref nq2, .ref nq3, .int 0, .ref nq4, .ref nq7, .int 0, .int 0, .int 0])), (nq1, .inl (cy 0, 7, .inl (fun _ => 0))), (nq2, .inl (cy 0, 7, .inl (fun _ => 0))), (nq3, .inl (cy 0, 7, .inl (fun _ => 0))), (nq4, .inr (5, [.ref xq6, .int 0])), (xq6, .inl (cy 0, 7, .inl (fun _ => 0))), (nq7, .inr (5, [.ref xq9, .int 0])), (xq9, .inl (cy 0, 7, .inl (fun _ => 0)))] := hD
  refine W.widen (k := 7) (n := 225) (by first | exact Nat.le_of_ble_eq_true rfl | omega) (by first | exact Nat.le_of_ble_eq_true rfl | omega) ?_
  exact W.vret hx hb hr (fun t ht hW => ⟨⟨(), rfl, trivial, by dsimp only; rw [ht]; exact ⟨nq1, nq2, nq3, nq4, nq7, xq6, xq9, hP9, hD9⟩⟩, hS.F ht⟩) hS.2.2 dX3_init_74
def B_c_X2_init (G : va_G) (cy : Nat → ClassId) (sk : Nat → Nat) (A : Nat → Prop) (h0 : Nat) (H : Heap) : Prop := ∃ (ld : Nat) (sr : Nat) (tx : Nat) (vl : Nat) (f0 : Nat) (c0 : Nat) (k0 : Nat) (f1 : Nat) (c1 : Nat) (k1 : Nat) (f2 : Nat) (c2 : Nat) (k2 : Nat) (fl : Nat → Int32) (gt : Nat → Option Nat), (gt 0 = some f0) ∧ (gt 1 = some f1) ∧ (gt 2 = some f2) ∧ (∀ j, j < 5 → fl j = 50) ∧ va_P G classes [(h0, .inr (2, [.int 5, .int 9, .int 0, .ref ld, .ref sr, .ref tx, .ref vl])), (ld, .inl (cy 0, 5, .inl fl)), (sr, .inl (cy 0, 5, .inl (fun _ => 0))), (tx, .inl (cy 3, 3, .inr (.inr (.inr (.inr gt))))), (vl, .inl (cy 0, 5, .inl (fun _ => 0))), (f0, .inr (1, [.ref c0, .ref k0, .int 0])), (c0, .inl (cy 0, 48, .inl (fun _ => 0))), (k0, .inl (cy 0, 48, .inl (fun _ => 0))), (f1, .inr (1, [.ref c1, .ref k1, .int 0])), (c1, .inl (cy 0, 48, .inl (fun _ => 0))), (k1, .inl (cy 0, 48, .inl (fun _ => 0))), (f2, .inr (1, [.ref c2, .ref k2, .int 0])), (c2, .inl (cy 0, 48, .inl (fun _ => 0))), (k2, .inl (cy 0, 48, .inl (fun _ => 0)))] H ∧ va_D A [(h0, .inr (2, [.int 5, .int 9, .int 0, .ref ld, .ref sr, .ref tx, .ref vl])), (ld, .inl (cy 0, 5, .inl fl)), (sr, .inl (cy 0, 5, .inl (fun _ => 0))), (tx, .inl (cy 3, 3, .inr (.inr (.inr (.inr gt))))), (vl, .inl (cy 0, 5, .inl (fun _ => 0))), (f0, .inr (1, [.ref c0, .ref k0, .int 0])), (c0, .inl (cy 0, 48, .inl (fun _ => 0))), (k0, .inl (cy 0, 48, .inl (fun _ => 0))), (f1, .inr (1, [.ref c1, .ref k1, .int 0])), (c1, .inl (cy 0, 48, .inl (fun _ => 0))), (k1, .inl (cy 0, 48, .inl (fun _ => 0))), (f2, .inr (1, [.ref c2, .ref k2, .int 0])), (c2, .inl (cy 0, 48, .inl (fun _ => 0))), (k2, .inl (cy 0, 48, .inl (fun _ => 0)))]
set_option maxHeartbeats 4000000 in
set_option maxRecDepth 100000 in
theorem c_X2_init (l : Launch) (G : va_G) (cy : Nat → ClassId) (sk : Nat → Nat) (sz : Nat) (h0 : Nat)  : Met l yX2_init (wsO yX2_init cX2_init 2 none) ({ frames := 2, cells := 13, slots := 315, locals := 32 }) (va_Pc [.ref h0] (PR G cy sk sz [(h0, .inr (2, [.int 0, .int 0, .int 0, .null, .null, .null, .null]))])) (va_Qv (fun (_ : Unit) => True) (fun _ t => B_c_X2_init G cy sk (va_A [(h0, .inr (2, [.int 0, .int 0, .int 0, .null, .null, .null, .null]))] sz) h0 t.heap) (va_A [(h0, .inr (2, [.int 0, .int 0, .int 0, .null, .null, .null, .null]))] sz)) 13 315 (va_A [(h0, .inr (2, [.int 0, .int 0, .int 0, .null, .null, .null, .null]))] sz) := by
  refine mt (by decide) (Nat.le_of_ble_eq_true rfl) ?_
  intro p e s m below meth c ls hx hb hr hml hts hown hlocks hin hsz hP hE hD hl
  subst hsz
  have hl : lv_has ls 2 [(0, .ref h0)] := hl
  have hD := hD.self (sz := s.heap.size)
  generalize hAe : va_A [(h0, .inr (2, [.int 0, .int 0, .int 0, .null, .null, .null, .null]))] s.heap.size = A at hD ⊢
  have hA : ∀ q : Nat, s.heap.size ≤ q → A q := fun q h => by rw [← hAe]; exact Or.inr h
  have hS : va_S A s.heap s.heap [] := va_S.rf
  refine lv_aload_n hx hb dX2_init_0 rfl (lv_at hl 0 rfl) ?_
  refine W.objInit hx hb hown (hts _ m_152) (hts _ m_107) (hts _ m_108) rfl (by rw [hml]; exact hl.1) rfl dX2_init_1 (Nat.le_of_ble_eq_true rfl) (Nat.le_of_ble_eq_true rfl) ?_
  refine W.eq (g2 := F0 m 4 ls []) rfl ?_
  refine lv_aload_n hx hb dX2_init_4 rfl (lv_at hl 0 rfl) ?_
  refine lv_iconst (v := 5) hx hb dX2_init_5 (by decide) ?_
  refine va_put (D := G) (ci := 2) (v := .int 5) (ty := .int) (C := RX2) (T := TX2) (N := 7) hx hb hts inB2 tyX2 tyX2_ok nmX2 hown hE.1 hP hD hS 0 rfl rfl 0 (by decide) (hts _ m_170) (fun _ h9 => h9) rfl (by decide +kernel) rfl rfl (Nat.le_of_ble_eq_true rfl) dX2_init_6 (fun H locs hP hD hS => ?_)
  have hP : va_P G classes [(h0, .inr (2, [.int 5, .int 0, .int 0, .null, .null, .null, .null]))] H := hP
  refine lv_aload_n hx hb dX2_init_9 rfl (lv_at hl 0 rfl) ?_
  refine lv_bipush (v := 9) hx hb dX2_init_10 (by decide) ?_
  refine va_put (D := G) (ci := 2) (v := .int 9) (ty := .int) (C := RX2) (T := TX2) (N := 7) hx hb hts inB2 tyX2 tyX2_ok nmX2 hown hE.1 hP hD hS 0 rfl rfl 1 (by decide) (hts _ m_171) (fun _ h9 => h9) rfl (by decide +kernel) rfl rfl (Nat.le_of_ble_eq_true rfl) dX2_init_12 (fun H locs hP hD hS => ?_)
  have hP : va_P G classes [(h0, .inr (2, [.int 5, .int 9, .int 0, .null, .null, .null, .null]))] H := hP
  refine lv_aload_n hx hb dX2_init_15 rfl (lv_at hl 0 rfl) ?_
  refine lv_iconst (v := 0) hx hb dX2_init_16 (by decide) ?_
  refine va_put (D := G) (ci := 2) (v := .int 0) (ty := .int) (C := RX2) (T := TX2) (N := 7) hx hb hts inB2 tyX2 tyX2_ok nmX2 hown hE.1 hP hD hS 0 rfl rfl 2 (by decide) (hts _ m_172) (fun _ h9 => h9) rfl (by decide +kernel) rfl rfl (Nat.le_of_ble_eq_true rfl) dX2_init_17 (fun H locs hP hD hS => ?_)
  have hP : va_P G classes [(h0, .inr (2, [.int 5, .int 9, .int 0, .null, .null, .null, .null]))] H := hP
  refine lv_aload_n hx hb dX2_init_20 rfl (lv_at hl 0 rfl) ?_
  refine lv_iconst (v := 5) hx hb dX2_init_21 (by decide) ?_
  refine nwI (n := 5) (N := 5) hx hb hts m_146 hE hP hD hS hA (by decide) (by decide) (Nat.le_of_ble_eq_true rfl) (Nat.le_of_ble_eq_true rfl) (Nat.le_of_ble_eq_true rfl) dX2_init_22 (fun nq1 H hP hD hS => ?_)
  have hP : va_P G classes [(h0, .inr (2, [.int 5, .int 9, .int 0, .null, .null, .null, .null])), (nq1, .inl (cy 0, 5, .inl (fun _ => 0)))] H := hP
  refine va_putF (D := G) (ci := 2) (v := .ref nq1) (ty := (.array .int)) (C := RX2) (T := TX2) (N := 7) hx hb hts inB2 tyX2 tyX2_ok nmX2 hown hE.1 hP hD hS 0 rfl rfl 3 (by decide) (hts _ m_173) (fun _ h9 => h9) rfl hin rfl (by decide +kernel) rfl rfl (Nat.le_of_ble_eq_true rfl) dX2_init_24 (fun H locs hP hD hS => ?_)
  have hP : va_P G classes [(h0, .inr (2, [.int 5, .int 9, .int 0, .ref nq1, .null, .null, .null])), (nq1, .inl (cy 0, 5, .inl (fun _ => 0)))] H := hP
  refine lv_aload_n hx hb dX2_init_27 rfl (lv_at hl 0 rfl) ?_
  refine lv_iconst (v := 5) hx hb dX2_init_28 (by decide) ?_
  refine nwI (n := 5) (N := 5) hx hb hts m_146 hE hP hD hS hA (by decide) (by decide) (Nat.le_of_ble_eq_true rfl) (Nat.le_of_ble_eq_true rfl) (Nat.le_of_ble_eq_true rfl) dX2_init_29 (fun nq2 H hP hD hS => ?_)
  have hP : va_P G classes [(h0, .inr (2, [.int 5, .int 9, .int 0, .ref nq1, .null, .null, .null])), (nq1, .inl (cy 0, 5, .inl (fun _ => 0))), (nq2, .inl (cy 0, 5, .inl (fun _ => 0)))] H := hP
  refine va_putF (D := G) (ci := 2) (v := .ref nq2) (ty := (.array .int)) (C := RX2) (T := TX2) (N := 7) hx hb hts inB2 tyX2 tyX2_ok nmX2 hown hE.1 hP hD hS 0 rfl rfl 4 (by decide) (hts _ m_174) (fun _ h9 => h9) rfl hin rfl (by decide +kernel) rfl rfl (Nat.le_of_ble_eq_true rfl) dX2_init_31 (fun H locs hP hD hS => ?_)
  have hP : va_P G classes [(h0, .inr (2, [.int 5, .int 9, .int 0, .ref nq1, .ref nq2, .null, .null])), (nq1, .inl (cy 0, 5, .inl (fun _ => 0))), (nq2, .inl (cy 0, 5, .inl (fun _ => 0)))] H := hP
  refine lv_aload_n hx hb dX2_init_34 rfl (lv_at hl 0 rfl) ?_
  refine lv_iconst (v := 3) hx hb dX2_init_35 (by decide) ?_
  refine nwQ (n := 3) (N := 3) (C := "ClickStreet$Formula") (t0 := 3) hx hb hown hts m_153 (by decide) hE hP hD hS hA rfl (by decide) (by decide) (Nat.le_of_ble_eq_true rfl) (Nat.le_of_ble_eq_true rfl) (Nat.le_of_ble_eq_true rfl) dX2_init_36 (fun nq3 H hP hD hS => ?_)
  have hP : va_P G classes [(h0, .inr (2, [.int 5, .int 9, .int 0, .ref nq1, .ref nq2, .null, .null])), (nq1, .inl (cy 0, 5, .inl (fun _ => 0))), (nq2, .inl (cy 0, 5, .inl (fun _ => 0))), (nq3, .inl (cy 3, 3, .inr (.inr (.inr (.inr (fun _ => none))))))] H := hP
  refine va_putF (D := G) (ci := 2) (v := .ref nq3) (ty := (.array (.object "ClickStreet$Formula"))) (C := RX2) (T := TX2) (N := 7) hx hb hts inB2 tyX2 tyX2_ok nmX2 hown hE.1 hP hD hS 0 rfl rfl 5 (by decide) (hts _ m_175) (fun _ h9 => h9) rfl hin rfl (by decide +kernel) rfl rfl (Nat.le_of_ble_eq_true rfl) dX2_init_39 (fun H locs hP hD hS => ?_)
  have hP : va_P G classes [(h0, .inr (2, [.int 5, .int 9, .int 0, .ref nq1, .ref nq2, .ref nq3, .null])), (nq1, .inl (cy 0, 5, .inl (fun _ => 0))), (nq2, .inl (cy 0, 5, .inl (fun _ => 0))), (nq3, .inl (cy 3, 3, .inr (.inr (.inr (.inr (fun _ => none))))))] H := hP
  refine lv_aload_n hx hb dX2_init_42 rfl (lv_at hl 0 rfl) ?_
  refine lv_iconst (v := 5) hx hb dX2_init_43 (by decide) ?_
  refine nwI (n := 5) (N := 5) hx hb hts m_146 hE hP hD hS hA (by decide) (by decide) (Nat.le_of_ble_eq_true rfl) (Nat.le_of_ble_eq_true rfl) (Nat.le_of_ble_eq_true rfl) dX2_init_44 (fun nq4 H hP hD hS => ?_)
  have hP : va_P G classes [(h0, .inr (2, [.int 5, .int 9, .int 0, .ref nq1, .ref nq2, .ref nq3, .null])), (nq1, .inl (cy 0, 5, .inl (fun _ => 0))), (nq2, .inl (cy 0, 5, .inl (fun _ => 0))), (nq3, .inl (cy 3, 3, .inr (.inr (.inr (.inr (fun _ => none)))))), (nq4, .inl (cy 0, 5, .inl (fun _ => 0)))] H := hP
  refine va_putF (D := G) (ci := 2) (v := .ref nq4) (ty := (.array .int)) (C := RX2) (T := TX2) (N := 7) hx hb hts inB2 tyX2 tyX2_ok nmX2 hown hE.1 hP hD hS 0 rfl rfl 6 (by decide) (hts _ m_177) (fun _ h9 => h9) rfl hin rfl (by decide +kernel) rfl rfl (Nat.le_of_ble_eq_true rfl) dX2_init_46 (fun H locs hP hD hS => ?_)
  have hP : va_P G classes [(h0, .inr (2, [.int 5, .int 9, .int 0, .ref nq1, .ref nq2, .ref nq3, .ref nq4])), (nq1, .inl (cy 0, 5, .inl (fun _ => 0))), (nq2, .inl (cy 0, 5, .inl (fun _ => 0))), (nq3, .inl (cy 3, 3, .inr (.inr (.inr (.inr (fun _ => none)))))), (nq4, .inl (cy 0, 5, .inl (fun _ => 0)))] H := hP
  refine lv_iconst (v := 0) hx hb dX2_init_49 (by decide) ?_
  refine lv_istore_n (lv' := [(1, .int 0), (0, .ref h0)]) hx hb dX2_init_50 rfl hl (by decide) rfl (fun ls hl => ?_)
  refine lv_iload_n hx hb dX2_init_51 rfl (lv_at hl 0 rfl) ?_
  refine lv_iconst (v := 5) hx hb dX2_init_52 (by decide) ?_
  refine lv_icmp_ge (tgt := 70) hx hb dX2_init_53 (by decide) (fun h9 => absurd h9 (by decide)) (fun _ => ?_)
  refine lv_aload_n hx hb dX2_init_56 rfl (lv_at hl 1 rfl) ?_
  refine va_get (D := G) (ci := 2) (v := .ref nq1) (C := RX2) (T := TX2) (N := 7) hx hb hts inB2 hown hE.1 hP 0 rfl rfl 3 (by decide) (hts _ m_173) (fun _ h9 => h9) rfl dX2_init_57 ?_
  refine lv_iload_n hx hb dX2_init_60 rfl (lv_at hl 0 rfl) ?_
  refine lv_bipush (v := 50) hx hb dX2_init_61 (by decide) ?_
  refine va_iast hx hb hE.1 hP hD hS 1 0 rfl rfl (vinL (by decide)) dX2_init_63 (fun H locs hP hD hS => ?_)
  have hP : va_P G classes [(h0, .inr (2, [.int 5, .int 9, .int 0, .ref nq1, .ref nq2, .ref nq3, .ref nq4])), (nq1, .inl (cy 0, 5, .inl (upd (fun _ => 0) 0 50))), (nq2, .inl (cy 0, 5, .inl (fun _ => 0))), (nq3, .inl (cy 3, 3, .inr (.inr (.inr (.inr (fun _ => none)))))), (nq4, .inl (cy 0, 5, .inl (fun _ => 0)))] H := hP
  refine lv_iinc (v := 1) (lv' := [(1, .int 1), (0, .ref h0)]) hx hb dX2_init_64 hl (k := 0) rfl (by decide) (by decide) rfl (fun ls hl => ?_)
  refine lv_goto (tgt := 51) hx hb dX2_init_67 (by decide) ?_
  refine lv_iload_n hx hb dX2_init_51 rfl (lv_at hl 0 rfl) ?_
  refine lv_iconst (v := 5) hx hb dX2_init_52 (by decide) ?_
  refine lv_icmp_ge (tgt := 70) hx hb dX2_init_53 (by decide) (fun h9 => absurd h9 (by decide)) (fun _ => ?_)
  refine lv_aload_n hx hb dX2_init_56 rfl (lv_at hl 1 rfl) ?_
  refine va_get (D := G) (ci := 2) (v := .ref nq1) (C := RX2) (T := TX2) (N := 7) hx hb hts inB2 hown hE.1 hP 0 rfl rfl 3 (by decide) (hts _ m_173) (fun _ h9 => h9) rfl dX2_init_57 ?_
  refine lv_iload_n hx hb dX2_init_60 rfl (lv_at hl 0 rfl) ?_
  refine lv_bipush (v := 50) hx hb dX2_init_61 (by decide) ?_
  refine va_iast hx hb hE.1 hP hD hS 1 0 rfl rfl (vinL (by decide)) dX2_init_63 (fun H locs hP hD hS => ?_)
  have hP : va_P G classes [(h0, .inr (2, [.int 5, .int 9, .int 0, .ref nq1, .ref nq2, .ref nq3, .ref nq4])), (nq1, .inl (cy 0, 5, .inl (upd (upd (fun _ => 0) 0 50) 1 50))), (nq2, .inl (cy 0, 5, .inl (fun _ => 0))), (nq3, .inl (cy 3, 3, .inr (.inr (.inr (.inr (fun _ => none)))))), (nq4, .inl (cy 0, 5, .inl (fun _ => 0)))] H := hP
  refine lv_iinc (v := 2) (lv' := [(1, .int 2), (0, .ref h0)]) hx hb dX2_init_64 hl (k := 0) rfl (by decide) (by decide) rfl (fun ls hl => ?_)
  refine lv_goto (tgt := 51) hx hb dX2_init_67 (by decide) ?_
  refine lv_iload_n hx hb dX2_init_51 rfl (lv_at hl 0 rfl) ?_
  refine lv_iconst (v := 5) hx hb dX2_init_52 (by decide) ?_
  refine lv_icmp_ge (tgt := 70) hx hb dX2_init_53 (by decide) (fun h9 => absurd h9 (by decide)) (fun _ => ?_)
  refine lv_aload_n hx hb dX2_init_56 rfl (lv_at hl 1 rfl) ?_
  refine va_get (D := G) (ci := 2) (v := .ref nq1) (C := RX2) (T := TX2) (N := 7) hx hb hts inB2 hown hE.1 hP 0 rfl rfl 3 (by decide) (hts _ m_173) (fun _ h9 => h9) rfl dX2_init_57 ?_
  refine lv_iload_n hx hb dX2_init_60 rfl (lv_at hl 0 rfl) ?_
  refine lv_bipush (v := 50) hx hb dX2_init_61 (by decide) ?_
  refine va_iast hx hb hE.1 hP hD hS 1 0 rfl rfl (vinL (by decide)) dX2_init_63 (fun H locs hP hD hS => ?_)
  have hP : va_P G classes [(h0, .inr (2, [.int 5, .int 9, .int 0, .ref nq1, .ref nq2, .ref nq3, .ref nq4])), (nq1, .inl (cy 0, 5, .inl (upd (upd (upd (fun _ => 0) 0 50) 1 50) 2 50))), (nq2, .inl (cy 0, 5, .inl (fun _ => 0))), (nq3, .inl (cy 3, 3, .inr (.inr (.inr (.inr (fun _ => none)))))), (nq4, .inl (cy 0, 5, .inl (fun _ => 0)))] H := hP
  refine lv_iinc (v := 3) (lv' := [(1, .int 3), (0, .ref h0)]) hx hb dX2_init_64 hl (k := 0) rfl (by decide) (by decide) rfl (fun ls hl => ?_)
  refine lv_goto (tgt := 51) hx hb dX2_init_67 (by decide) ?_
  refine lv_iload_n hx hb dX2_init_51 rfl (lv_at hl 0 rfl) ?_
  refine lv_iconst (v := 5) hx hb dX2_init_52 (by decide) ?_
  refine lv_icmp_ge (tgt := 70) hx hb dX2_init_53 (by decide) (fun h9 => absurd h9 (by decide)) (fun _ => ?_)
  refine lv_aload_n hx hb dX2_init_56 rfl (lv_at hl 1 rfl) ?_
  refine va_get (D := G) (ci := 2) (v := .ref nq1) (C := RX2) (T := TX2) (N := 7) hx hb hts inB2 hown hE.1 hP 0 rfl rfl 3 (by decide) (hts _ m_173) (fun _ h9 => h9) rfl dX2_init_57 ?_
  refine lv_iload_n hx hb dX2_init_60 rfl (lv_at hl 0 rfl) ?_
  refine lv_bipush (v := 50) hx hb dX2_init_61 (by decide) ?_
  refine va_iast hx hb hE.1 hP hD hS 1 0 rfl rfl (vinL (by decide)) dX2_init_63 (fun H locs hP hD hS => ?_)
  have hP : va_P G classes [(h0, .inr (2, [.int 5, .int 9, .int 0, .ref nq1, .ref nq2, .ref nq3, .ref nq4])), (nq1, .inl (cy 0, 5, .inl (upd (upd (upd (upd (fun _ => 0) 0 50) 1 50) 2 50) 3 50))), (nq2, .inl (cy 0, 5, .inl (fun _ => 0))), (nq3, .inl (cy 3, 3, .inr (.inr (.inr (.inr (fun _ => none)))))), (nq4, .inl (cy 0, 5, .inl (fun _ => 0)))] H := hP
  refine lv_iinc (v := 4) (lv' := [(1, .int 4), (0, .ref h0)]) hx hb dX2_init_64 hl (k := 0) rfl (by decide) (by decide) rfl (fun ls hl => ?_)
  refine lv_goto (tgt := 51) hx hb dX2_init_67 (by decide) ?_
  refine lv_iload_n hx hb dX2_init_51 rfl (lv_at hl 0 rfl) ?_
  refine lv_iconst (v := 5) hx hb dX2_init_52 (by decide) ?_
  refine lv_icmp_ge (tgt := 70) hx hb dX2_init_53 (by decide) (fun h9 => absurd h9 (by decide)) (fun _ => ?_)
  refine lv_aload_n hx hb dX2_init_56 rfl (lv_at hl 1 rfl) ?_
  refine va_get (D := G) (ci := 2) (v := .ref nq1) (C := RX2) (T := TX2) (N := 7) hx hb hts inB2 hown hE.1 hP 0 rfl rfl 3 (by decide) (hts _ m_173) (fun _ h9 => h9) rfl dX2_init_57 ?_
  refine lv_iload_n hx hb dX2_init_60 rfl (lv_at hl 0 rfl) ?_
  refine lv_bipush (v := 50) hx hb dX2_init_61 (by decide) ?_
  refine va_iast hx hb hE.1 hP hD hS 1 0 rfl rfl (vinL (by decide)) dX2_init_63 (fun H locs hP hD hS => ?_)
  have hP : va_P G classes [(h0, .inr (2, [.int 5, .int 9, .int 0, .ref nq1, .ref nq2, .ref nq3, .ref nq4])), (nq1, .inl (cy 0, 5, .inl (upd (upd (upd (upd (upd (fun _ => 0) 0 50) 1 50) 2 50) 3 50) 4 50))), (nq2, .inl (cy 0, 5, .inl (fun _ => 0))), (nq3, .inl (cy 3, 3, .inr (.inr (.inr (.inr (fun _ => none)))))), (nq4, .inl (cy 0, 5, .inl (fun _ => 0)))] H := hP
  refine lv_iinc (v := 5) (lv' := [(1, .int 5), (0, .ref h0)]) hx hb dX2_init_64 hl (k := 0) rfl (by decide) (by decide) rfl (fun ls hl => ?_)
  refine lv_goto (tgt := 51) hx hb dX2_init_67 (by decide) ?_
  refine lv_iload_n hx hb dX2_init_51 rfl (lv_at hl 0 rfl) ?_
  refine lv_iconst (v := 5) hx hb dX2_init_52 (by decide) ?_
  refine lv_icmp_ge (tgt := 70) hx hb dX2_init_53 (by decide) (fun _ => ?_) (fun h9 => absurd h9 (by decide))
  refine lv_iconst (v := 0) hx hb dX2_init_70 (by decide) ?_
  refine lv_istore_n (lv' := [(1, .int 0), (0, .ref h0)]) hx hb dX2_init_71 rfl hl (by decide) rfl (fun ls hl => ?_)
  refine lv_iload_n hx hb dX2_init_72 rfl (lv_at hl 0 rfl) ?_
  refine lv_iconst (v := 3) hx hb dX2_init_73 (by decide) ?_
  refine lv_icmp_ge (tgt := 96) hx hb dX2_init_74 (by decide) (fun h9 => absurd h9 (by decide)) (fun _ => ?_)
  refine lv_aload_n hx hb dX2_init_77 rfl (lv_at hl 1 rfl) ?_
  refine va_get (D := G) (ci := 2) (v := .ref nq3) (C := RX2) (T := TX2) (N := 7) hx hb hts inB2 hown hE.1 hP 0 rfl rfl 5 (by decide) (hts _ m_175) (fun _ h9 => h9) rfl dX2_init_78 ?_
  refine lv_iload_n hx hb dX2_init_81 rfl (lv_at hl 0 rfl) ?_
  refine va_new (ci := 1) (fs := [.null, .null, .int 0]) (C := RX1) (T := TX1) (N := 3) hx hb hts inB1 tyX1 tyX1_ok hown (hts _ m_153) (hts _ m_155) (hts _ m_83) hE.1 hP hD hS hA rfl df1 (Nat.le_of_ble_eq_true rfl) (Nat.le_of_ble_eq_true rfl) dX2_init_82 (fun nq5 H hP hD hS => ?_)
  have hP : va_P G classes [(h0, .inr (2, [.int 5, .int 9, .int 0, .ref nq1, .ref nq2, .ref nq3, .ref nq4])), (nq1, .inl (cy 0, 5, .inl (upd (upd (upd (upd (upd (fun _ => 0) 0 50) 1 50) 2 50) 3 50) 4 50))), (nq2, .inl (cy 0, 5, .inl (fun _ => 0))), (nq3, .inl (cy 3, 3, .inr (.inr (.inr (.inr (fun _ => none)))))), (nq4, .inl (cy 0, 5, .inl (fun _ => 0))), (nq5, .inr (1, [.null, .null, .int 0]))] H := hP
  refine lv_dup hx hb dX2_init_85 rfl ?_
  refine wIN (B := (B_c_X1_init G cy sk (va_A [(nq5, .inr (1, [.null, .null, .int 0]))] H.size) nq5)) (wr := [(h0, .inr (2, [.int 5, .int 9, .int 0, .ref nq1, .ref nq2, .ref nq3, .ref nq4])), (nq1, .inl (cy 0, 5, .inl (upd (upd (upd (upd (upd (fun _ => 0) 0 50) 1 50) 2 50) 3 50) 4 50))), (nq2, .inl (cy 0, 5, .inl (fun _ => 0))), (nq3, .inl (cy 3, 3, .inr (.inr (.inr (.inr (fun _ => none)))))), (nq4, .inl (cy 0, 5, .inl (fun _ => 0)))]) (rest := [.ref nq5, .int 0, .ref nq3]) (host := "ClickStreet") hx hb hml hown hts hE (c_X1_init l G cy sk H.size nq5) kI_X1_init (by decide +kernel) rfl rfl ⟨(Nat.le_of_ble_eq_true rfl), (Nat.le_of_ble_eq_true rfl)⟩ hP hD hS hA [5] [0, 1, 2, 3, 4] rfl rfl rfl rfl (by decide) rfl rfl hl.1 (Nat.le_of_ble_eq_true rfl) dX2_init_86 ⟨(Nat.le_of_ble_eq_true rfl), (Nat.le_of_ble_eq_true rfl)⟩ (fun H locs haf hS => ?_)
  obtain ⟨xq7, xq8, hP1, hD1⟩ := haf.1
  obtain ⟨hP, hD⟩ := haf.2.1 _ hP1 hD1
  have hP : va_P G classes [(h0, .inr (2, [.int 5, .int 9, .int 0, .ref nq1, .ref nq2, .ref nq3, .ref nq4])), (nq1, .inl (cy 0, 5, .inl (upd (upd (upd (upd (upd (fun _ => 0) 0 50) 1 50) 2 50) 3 50) 4 50))), (nq2, .inl (cy 0, 5, .inl (fun _ => 0))), (nq3, .inl (cy 3, 3, .inr (.inr (.inr (.inr (fun _ => none)))))), (nq4, .inl (cy 0, 5, .inl (fun _ => 0))), (nq5, .inr (1, [.ref xq7, .ref xq8, .int 0])), (xq7, .inl (cy 0, 48, .inl (fun _ => 0))), (xq8, .inl (cy 0, 48, .inl (fun _ => 0)))] H := hP
  refine va_astq hx hb hE.1 hP hD hS 3 3 5 1 rfl rfl rfl rfl (vinL (by decide)) dX2_init_89 (fun H locs hP hD hS => ?_)
  have hP : va_P G classes [(h0, .inr (2, [.int 5, .int 9, .int 0, .ref nq1, .ref nq2, .ref nq3, .ref nq4])), (nq1, .inl (cy 0, 5, .inl (upd (upd (upd (upd (upd (fun _ => 0) 0 50) 1 50) 2 50) 3 50) 4 50))), (nq2, .inl (cy 0, 5, .inl (fun _ => 0))), (nq3, .inl (cy 3, 3, .inr (.inr (.inr (.inr (va_up (fun _ => none) 0 (some nq5))))))), (nq4, .inl (cy 0, 5, .inl (fun _ => 0))), (nq5, .inr (1, [.ref xq7, .ref xq8, .int 0])), (xq7, .inl (cy 0, 48, .inl (fun _ => 0))), (xq8, .inl (cy 0, 48, .inl (fun _ => 0)))] H := hP
  refine lv_iinc (v := 1) (lv' := [(1, .int 1), (0, .ref h0)]) hx hb dX2_init_90 hl (k := 0) rfl (by decide) (by decide) rfl (fun ls hl => ?_)
  refine lv_goto (tgt := 72) hx hb dX2_init_93 (by decide) ?_
  refine lv_iload_n hx hb dX2_init_72 rfl (lv_at hl 0 rfl) ?_
  refine lv_iconst (v := 3) hx hb dX2_init_73 (by decide) ?_
  refine lv_icmp_ge (tgt := 96) hx hb dX2_init_74 (by decide) (fun h9 => absurd h9 (by decide)) (fun _ => ?_)
  refine lv_aload_n hx hb dX2_init_77 rfl (lv_at hl 1 rfl) ?_
  refine va_get (D := G) (ci := 2) (v := .ref nq3) (C := RX2) (T := TX2) (N := 7) hx hb hts inB2 hown hE.1 hP 0 rfl rfl 5 (by decide) (hts _ m_175) (fun _ h9 => h9) rfl dX2_init_78 ?_
  refine lv_iload_n hx hb dX2_init_81 rfl (lv_at hl 0 rfl) ?_
  refine va_new (ci := 1) (fs := [.null, .null, .int 0]) (C := RX1) (T := TX1) (N := 3) hx hb hts inB1 tyX1 tyX1_ok hown (hts _ m_153) (hts _ m_155) (hts _ m_83) hE.1 hP hD hS hA rfl df1 (Nat.le_of_ble_eq_true rfl) (Nat.le_of_ble_eq_true rfl) dX2_init_82 (fun nq9 H hP hD hS => ?_)
  have hP : va_P G classes [(h0, .inr (2, [.int 5, .int 9, .int 0, .ref nq1, .ref nq2, .ref nq3, .ref nq4])), (nq1, .inl (cy 0, 5, .inl (upd (upd (upd (upd (upd (fun _ => 0) 0 50) 1 50) 2 50) 3 50) 4 50))), (nq2, .inl (cy 0, 5, .inl (fun _ => 0))), (nq3, .inl (cy 3, 3, .inr (.inr (.inr (.inr (va_up (fun _ => none) 0 (some nq5))))))), (nq4, .inl (cy 0, 5, .inl (fun _ => 0))), (nq5, .inr (1, [.ref xq7, .ref xq8, .int 0])), (xq7, .inl (cy 0, 48, .inl (fun _ => 0))), (xq8, .inl (cy 0, 48, .inl (fun _ => 0))), (nq9, .inr (1, [.null, .null, .int 0]))] H := hP
  refine lv_dup hx hb dX2_init_85 rfl ?_
  refine wIN (B := (B_c_X1_init G cy sk (va_A [(nq9, .inr (1, [.null, .null, .int 0]))] H.size) nq9)) (wr := [(h0, .inr (2, [.int 5, .int 9, .int 0, .ref nq1, .ref nq2, .ref nq3, .ref nq4])), (nq1, .inl (cy 0, 5, .inl (upd (upd (upd (upd (upd (fun _ => 0) 0 50) 1 50) 2 50) 3 50) 4 50))), (nq2, .inl (cy 0, 5, .inl (fun _ => 0))), (nq3, .inl (cy 3, 3, .inr (.inr (.inr (.inr (va_up (fun _ => none) 0 (some nq5))))))), (nq4, .inl (cy 0, 5, .inl (fun _ => 0))), (nq5, .inr (1, [.ref xq7, .ref xq8, .int 0])), (xq7, .inl (cy 0, 48, .inl (fun _ => 0))), (xq8, .inl (cy 0, 48, .inl (fun _ => 0)))]) (rest := [.ref nq9, .int 1, .ref nq3]) (host := "ClickStreet") hx hb hml hown hts hE (c_X1_init l G cy sk H.size nq9) kI_X1_init (by decide +kernel) rfl rfl ⟨(Nat.le_of_ble_eq_true rfl), (Nat.le_of_ble_eq_true rfl)⟩ hP hD hS hA [8] [0, 1, 2, 3, 4, 5, 6, 7] rfl rfl rfl rfl (by decide) rfl rfl hl.1 (Nat.le_of_ble_eq_true rfl) dX2_init_86 ⟨(Nat.le_of_ble_eq_true rfl), (Nat.le_of_ble_eq_true rfl)⟩ (fun H locs haf hS => ?_)
  obtain ⟨xq11, xq12, hP1, hD1⟩ := haf.1
  obtain ⟨hP, hD⟩ := haf.2.1 _ hP1 hD1
  have hP : va_P G classes [(h0, .inr (2, [.int 5, .int 9, .int 0, .ref nq1, .ref nq2, .ref nq3, .ref nq4])), (nq1, .inl (cy 0, 5, .inl (upd (upd (upd (upd (upd (fun _ => 0) 0 50) 1 50) 2 50) 3 50) 4 50))), (nq2, .inl (cy 0, 5, .inl (fun _ => 0))), (nq3, .inl (cy 3, 3, .inr (.inr (.inr (.inr (va_up (fun _ => none) 0 (some nq5))))))), (nq4, .inl (cy 0, 5, .inl (fun _ => 0))), (nq5, .inr (1, [.ref xq7, .ref xq8, .int 0])), (xq7, .inl (cy 0, 48, .inl (fun _ => 0))), (xq8, .inl (cy 0, 48, .inl (fun _ => 0))), (nq9, .inr (1, [.ref xq11, .ref xq12, .int 0])), (xq11, .inl (cy 0, 48, .inl (fun _ => 0))), (xq12, .inl (cy 0, 48, .inl (fun _ => 0)))] H := hP
  refine va_astq hx hb hE.1 hP hD hS 3 3 8 1 rfl rfl rfl rfl (vinL (by decide)) dX2_init_89 (fun H locs hP hD hS => ?_)
  have hP : va_P G classes [(h0, .inr (2, [.int 5, .int 9, .int 0, .ref nq1, .ref nq2, .ref nq3, .ref nq4])), (nq1, .inl (cy 0, 5, .inl (upd (upd (upd (upd (upd (fun _ => 0) 0 50) 1 50) 2 50) 3 50) 4 50))), (nq2, .inl (cy 0, 5, .inl (fun _ => 0))), (nq3, .inl (cy 3, 3, .inr (.inr (.inr (.inr (va_up (va_up (fun _ => none) 0 (some nq5)) 1 (some nq9))))))), (nq4, .inl (cy 0, 5, .inl (fun _ => 0))), (nq5, .inr (1, [.ref xq7, .ref xq8, .int 0])), (xq7, .inl (cy 0, 48, .inl (fun _ => 0))), (xq8, .inl (cy 0, 48, .inl (fun _ => 0))), (nq9, .inr (1, [.ref xq11, .ref xq12, .int 0])), (xq11, .inl (cy 0, 48, .inl (fun _ => 0))), (xq12, .inl (cy 0, 48, .inl (fun _ => 0)))] H := hP
  refine lv_iinc (v := 2) (lv' := [(1, .int 2), (0, .ref h0)]) hx hb dX2_init_90 hl (k := 0) rfl (by decide) (by decide) rfl (fun ls hl => ?_)
  refine lv_goto (tgt := 72) hx hb dX2_init_93 (by decide) ?_
  refine lv_iload_n hx hb dX2_init_72 rfl (lv_at hl 0 rfl) ?_
  refine lv_iconst (v := 3) hx hb dX2_init_73 (by decide) ?_
  refine lv_icmp_ge (tgt := 96) hx hb dX2_init_74 (by decide) (fun h9 => absurd h9 (by decide)) (fun _ => ?_)
  refine lv_aload_n hx hb dX2_init_77 rfl (lv_at hl 1 rfl) ?_
  refine va_get (D := G) (ci := 2) (v := .ref nq3) (C := RX2) (T := TX2) (N := 7) hx hb hts inB2 hown hE.1 hP 0 rfl rfl 5 (by decide) (hts _ m_175) (fun _ h9 => h9) rfl dX2_init_78 ?_
  refine lv_iload_n hx hb dX2_init_81 rfl (lv_at hl 0 rfl) ?_
  refine va_new (ci := 1) (fs := [.null, .null, .int 0]) (C := RX1) (T := TX1) (N := 3) hx hb hts inB1 tyX1 tyX1_ok hown (hts _ m_153) (hts _ m_155) (hts _ m_83) hE.1 hP hD hS hA rfl df1 (Nat.le_of_ble_eq_true rfl) (Nat.le_of_ble_eq_true rfl) dX2_init_82 (fun nq13 H hP hD hS => ?_)
  have hP : va_P G classes [(h0, .inr (2, [.int 5, .int 9, .int 0, .ref nq1, .ref nq2, .ref nq3, .ref nq4])), (nq1, .inl (cy 0, 5, .inl (upd (upd (upd (upd (upd (fun _ => 0) 0 50) 1 50) 2 50) 3 50) 4 50))), (nq2, .inl (cy 0, 5, .inl (fun _ => 0))), (nq3, .inl (cy 3, 3, .inr (.inr (.inr (.inr (va_up (va_up (fun _ => none) 0 (some nq5)) 1 (some nq9))))))), (nq4, .inl (cy 0, 5, .inl (fun _ => 0))), (nq5, .inr (1, [.ref xq7, .ref xq8, .int 0])), (xq7, .inl (cy 0, 48, .inl (fun _ => 0))), (xq8, .inl (cy 0, 48, .inl (fun _ => 0))), (nq9, .inr (1, [.ref xq11, .ref xq12, .int 0])), (xq11, .inl (cy 0, 48, .inl (fun _ => 0))), (xq12, .inl (cy 0, 48, .inl (fun _ => 0))), (nq13, .inr (1, [.null, .null, .int 0]))] H := hP
  refine lv_dup hx hb dX2_init_85 rfl ?_
  refine wIN (B := (B_c_X1_init G cy sk (va_A [(nq13, .inr (1, [.null, .null, .int 0]))] H.size) nq13)) (wr := [(h0, .inr (2, [.int 5, .int 9, .int 0, .ref nq1, .ref nq2, .ref nq3, .ref nq4])), (nq1, .inl (cy 0, 5, .inl (upd (upd (upd (upd (upd (fun _ => 0) 0 50) 1 50) 2 50) 3 50) 4 50))), (nq2, .inl (cy 0, 5, .inl (fun _ => 0))), (nq3, .inl (cy 3, 3, .inr (.inr (.inr (.inr (va_up (va_up (fun _ => none) 0 (some nq5)) 1 (some nq9))))))), (nq4, .inl (cy 0, 5, .inl (fun _ => 0))), (nq5, .inr (1, [.ref xq7, .ref xq8, .int 0])), (xq7, .inl (cy 0, 48, .inl (fun _ => 0))), (xq8, .inl (cy 0, 48, .inl (fun _ => 0))), (nq9, .inr (1, [.ref xq11, .ref xq12, .int 0])), (xq11, .inl (cy 0, 48, .inl (fun _ => 0))), (xq12, .inl (cy 0, 48, .inl (fun _ => 0)))]) (rest := [.ref nq13, .int 2, .ref nq3]) (host := "ClickStreet") hx hb hml hown hts hE (c_X1_init l G cy sk H.size nq13) kI_X1_init (by decide +kernel) rfl rfl ⟨(Nat.le_of_ble_eq_true rfl), (Nat.le_of_ble_eq_true rfl)⟩ hP hD hS hA [11] [0, 1, 2, 3, 4, 5, 6, 7, 8, 9, 10] rfl rfl rfl rfl (by decide) rfl rfl hl.1 (Nat.le_of_ble_eq_true rfl) dX2_init_86 ⟨(Nat.le_of_ble_eq_true rfl), (Nat.le_of_ble_eq_true rfl)⟩ (fun H locs haf hS => ?_)
  obtain ⟨xq15, xq16, hP1, hD1⟩ := haf.1
  obtain ⟨hP, hD⟩ := haf.2.1 _ hP1 hD1
  have hP : va_P G classes [(h0, .inr (2, [.int 5, .int 9, .int 0, .ref nq1, .ref nq2, .ref nq3, .ref nq4])), (nq1, .inl (cy 0, 5, .inl (upd (upd (upd (upd (upd (fun _ => 0) 0 50) 1 50) 2 50) 3 50) 4 50))), (nq2, .inl (cy 0, 5, .inl (fun _ => 0))), (nq3, .inl (cy 3, 3, .inr (.inr (.inr (.inr (va_up (va_up (fun _ => none) 0 (some nq5)) 1 (some nq9))))))), (nq4, .inl (cy 0, 5, .inl (fun _ => 0))), (nq5, .inr (1, [.ref xq7, .ref xq8, .int 0])), (xq7, .inl (cy 0, 48, .inl (fun _ => 0))), (xq8, .inl (cy 0, 48, .inl (fun _ => 0))), (nq9, .inr (1, [.ref xq11, .ref xq12, .int 0])), (xq11, .inl (cy 0, 48, .inl (fun _ => 0))), (xq12, .inl (cy 0, 48, .inl (fun _ => 0))), (nq13, .inr (1, [.ref xq15, .ref xq16, .int 0])), (xq15, .inl (cy 0, 48, .inl (fun _ => 0))), (xq16, .inl (cy 0, 48, .inl (fun _ => 0)))] H := hP
  refine va_astq hx hb hE.1 hP hD hS 3 3 11 1 rfl rfl rfl rfl (vinL (by decide)) dX2_init_89 (fun H locs hP hD hS => ?_)
  have hP : va_P G classes [(h0, .inr (2, [.int 5, .int 9, .int 0, .ref nq1, .ref nq2, .ref nq3, .ref nq4])), (nq1, .inl (cy 0, 5, .inl (upd (upd (upd (upd (upd (fun _ => 0) 0 50) 1 50) 2 50) 3 50) 4 50))), (nq2, .inl (cy 0, 5, .inl (fun _ => 0))), (nq3, .inl (cy 3, 3, .inr (.inr (.inr (.inr (va_up (va_up (va_up (fun _ => none) 0 (some nq5)) 1 (some nq9)) 2 (some nq13))))))), (nq4, .inl (cy 0, 5, .inl (fun _ => 0))), (nq5, .inr (1, [.ref xq7, .ref xq8, .int 0])), (xq7, .inl (cy 0, 48, .inl (fun _ => 0))), (xq8, .inl (cy 0, 48, .inl (fun _ => 0))), (nq9, .inr (1, [.ref xq11, .ref xq12, .int 0])), (xq11, .inl (cy 0, 48, .inl (fun _ => 0))), (xq12, .inl (cy 0, 48, .inl (fun _ => 0))), (nq13, .inr (1, [.ref xq15, .ref xq16, .int 0])), (xq15, .inl (cy 0, 48, .inl (fun _ => 0))), (xq16, .inl (cy 0, 48, .inl (fun _ => 0)))] H := hP
  refine lv_iinc (v := 3) (lv' := [(1, .int 3), (0, .ref h0)]) hx hb dX2_init_90 hl (k := 0) rfl (by decide) (by decide) rfl (fun ls hl => ?_)
  refine lv_goto (tgt := 72) hx hb dX2_init_93 (by decide) ?_
  refine lv_iload_n hx hb dX2_init_72 rfl (lv_at hl 0 rfl) ?_
  refine lv_iconst (v := 3) hx hb dX2_init_73 (by decide) ?_
  refine lv_icmp_ge (tgt := 96) hx hb dX2_init_74 (by decide) (fun _ => ?_) (fun h9 => absurd h9 (by decide))
  have hP9 : va_P G classes [(h0, .inr (2, [.int 5, .int 9, .int 0, .ref nq1, .ref nq2, .ref nq3, .ref nq4])), (nq1, .inl (cy 0, 5, .inl (upd (upd (upd (upd (upd (fun _ => 0) 0 50) 1 50) 2 50) 3 50) 4 50))), (nq2, .inl (cy 0, 5, .inl (fun _ => 0))), (nq3, .inl (cy 3, 3, .inr (.inr (.inr (.inr (va_up (va_up (va_up (fun _ => none) 0 (some nq5)) 1 (some nq9)) 2 (some nq13))))))), (nq4, .inl (cy 0, 5, .inl (fun _ => 0))), (nq5, .inr (1, [.ref xq7, .ref xq8, .int 0])), (xq7, .inl (cy 0, 48, .inl (fun _ => 0))), (xq8, .inl (cy 0, 48, .inl (fun _ => 0))), (nq9, .inr (1, [.ref xq11, .ref xq12, .int 0])), (xq11, .inl (cy 0, 48, .inl (fun _ => 0))), (xq12, .inl (cy 0, 48, .inl (fun _ => 0))), (nq13, .inr (1, [.ref xq15, .ref xq16, .int 0])), (xq15, .inl (cy 0, 48, .inl (fun _ => 0))), (xq16, .inl (cy 0, 48, .inl (fun _ => 0)))] H := hP
  have hD9 : va_D A [(h0, .inr (2, [.int 5, .int 9, .int 0, .ref nq1, .ref nq2, .ref nq3, .ref nq4])), (nq1, .inl (cy 0, 5, .inl (upd (upd (upd (upd (upd (fun _ => 0) 0 50) 1 50) 2 50) 3 50) 4 50))), (nq2, .inl (cy 0, 5, .inl (fun _ => 0))), (nq3, .inl (cy 3, 3, .inr (.inr (.inr (.inr (va_up (va_up (va_up (fun _ => none) 0 (some nq5)) 1 (some nq9)) 2 (some nq13))))))), (nq4, .inl (cy 0, 5, .inl (fun _ => 0))), (nq5, .inr (1, [.ref xq7, .ref xq8, .int 0])), (xq7, .inl (cy 0, 48, .inl (fun _ => 0))), (xq8, .inl (cy 0, 48, .inl (fun _ => 0))), (nq9, .inr (1, [.ref xq11, .ref xq12, .int 0])), (xq11, .inl (cy 0, 48, .inl (fun _ => 0))), (xq12, .inl (cy 0, 48, .inl (fun _ => 0))), (nq13, .inr (1, [.ref xq15, .ref xq16, .int 0])), (xq15, .inl (cy 0, 48, .inl (fun _ => 0))), (xq16, .inl (cy 0, 48, .inl (fun _ => 0)))] := hD
  refine W.widen (k := 13) (n := 315) (by first | exact Nat.le_of_ble_eq_true rfl | omega) (by first | exact Nat.le_of_ble_eq_true rfl | omega) ?_
  exact W.vret hx hb hr (fun t ht hW => ⟨⟨(), rfl, trivial, by dsimp only; rw [ht]; exact ⟨nq1, nq2, nq3, nq4, nq5, xq7, xq8, nq9, xq11, xq12, nq13, xq15, xq16, (upd (upd (upd (upd (upd (fun _ => 0) 0 50) 1 50) 2 50) 3 50) 4 50), (va_up (va_up (va_up (fun _ => none) 0 (some nq5)) 1 (some nq9)) 2 (some nq13)), rfl, rfl, rfl, (by decide), hP9, hD9⟩⟩, hS.F ht⟩) hS.2.2 dX2_init_96
end
section
def B_c_X4_init (G : va_G) (cy : Nat → ClassId) (sk : Nat → Nat) (A : Nat → Prop) (h0 : Nat) (H : Heap) : Prop := ∃ (dr : Nat) (t0 : Nat) (co : Nat) (ck : Nat) (t0a : Nat) (nm : Nat), (nm = (sk 0)) ∧ va_P G classes [(h0, .inr (4, [.ref dr, .ref t0, .ref nm, .int 0, .int (-1), .int 0, .int 0])), (dr, .inr (1, [.ref co, .ref ck, .int 0])), (co, .inl (cy 0, 48, .inl (fun _ => 0))), (ck, .inl (cy 0, 48, .inl (fun _ => 0))), (t0, .inr (5, [.ref t0a, .int 0])), (t0a, .inl (cy 0, 0, .inl (fun _ => 0)))] H ∧ va_D A [(h0, .inr (4, [.ref dr, .ref t0, .ref nm, .int 0, .int (-1), .int 0, .int 0])), (dr, .inr (1, [.ref co, .ref ck, .int 0])), (co, .inl (cy 0, 48, .inl (fun _ => 0))), (ck, .inl (cy 0, 48, .inl (fun _ => 0))), (t0, .inr (5, [.ref t0a, .int 0])), (t0a, .inl (cy 0, 0, .inl (fun _ => 0)))]
theorem eN_0 {G : va_G} {cy : Nat → ClassId} {sk : Nat → Nat} {s : State} (hE : EN G cy sk s) : vk_R RX4 25 "" (sk 0) s := hE.2.2.2.1 0 (RX4, 25, "") rfl
set_option maxHeartbeats 4000000 in
set_option maxRecDepth 100000 in
theorem c_X4_init (l : Launch) (G : va_G) (cy : Nat → ClassId) (sk : Nat → Nat) (sz : Nat) (h0 : Nat)  : Met l yX4_init (wsO yX4_init cX4_init 1 none) ({ frames := 2, cells := 5, slots := 201, locals := 35 }) (va_Pc [.ref h0] (PR G cy sk sz [(h0, .inr (4, [.null, .null, .null, .int 0, .int 0, .int 0, .int 0]))])) (va_Qv (fun (_ : Unit) => True) (fun _ t => B_c_X4_init G cy sk (va_A [(h0, .inr (4, [.null, .null, .null, .int 0, .int 0, .int 0, .int 0]))] sz) h0 t.heap) (va_A [(h0, .inr (4, [.null, .null, .null, .int 0, .int 0, .int 0, .int 0]))] sz)) 5 201 (va_A [(h0, .inr (4, [.null, .null, .null, .int 0, .int 0, .int 0, .int 0]))] sz) := by
  refine mt (by decide) (Nat.le_of_ble_eq_true rfl) ?_
  intro p e s m below meth c ls hx hb hr hml hts hown hlocks hin hsz hP hE hD hl
  subst hsz
  have hl : lv_has ls 1 [(0, .ref h0)] := hl
  have hD := hD.self (sz := s.heap.size)
  generalize hAe : va_A [(h0, .inr (4, [.null, .null, .null, .int 0, .int 0, .int 0, .int 0]))] s.heap.size = A at hD ⊢
  have hA : ∀ q : Nat, s.heap.size ≤ q → A q := fun q h => by rw [← hAe]; exact Or.inr h
  have hS : va_S A s.heap s.heap [] := va_S.rf
  refine lv_aload_n hx hb dX4_init_0 rfl (lv_at hl 0 rfl) ?_
  refine W.objInit hx hb hown (hts _ m_352) (hts _ m_107) (hts _ m_108) rfl (by rw [hml]; exact hl.1) rfl dX4_init_1 (Nat.le_of_ble_eq_true rfl) (Nat.le_of_ble_eq_true rfl) ?_
  refine W.eq (g2 := F0 m 4 ls []) rfl ?_
  refine lv_aload_n hx hb dX4_init_4 rfl (lv_at hl 0 rfl) ?_
  refine va_new (ci := 1) (fs := [.null, .null, .int 0]) (C := RX1) (T := TX1) (N := 3) hx hb hts inB1 tyX1 tyX1_ok hown (hts _ m_353) (hts _ m_155) (hts _ m_83) hE.1 hP hD hS hA rfl df1 (Nat.le_of_ble_eq_true rfl) (Nat.le_of_ble_eq_true rfl) dX4_init_5 (fun nq1 H hP hD hS => ?_)
  have hP : va_P G classes [(h0, .inr (4, [.null, .null, .null, .int 0, .int 0, .int 0, .int 0])), (nq1, .inr (1, [.null, .null, .int 0]))] H := hP
  refine lv_dup hx hb dX4_init_8 rfl ?_
  refine wIN (B := (B_c_X1_init G cy sk (va_A [(nq1, .inr (1, [.null, .null, .int 0]))] H.size) nq1)) (wr := [(h0, .inr (4, [.null, .null, .null, .int 0, .int 0, .int 0, .int 0]))]) (rest := [.ref nq1, .ref h0]) (host := "ClickStreet") hx hb hml hown hts hE (c_X1_init l G cy sk H.size nq1) kI_X1_init (by decide +kernel) rfl rfl ⟨(Nat.le_of_ble_eq_true rfl), (Nat.le_of_ble_eq_true rfl)⟩ hP hD hS hA [1] [0] rfl rfl rfl rfl (by decide) rfl rfl hl.1 (Nat.le_of_ble_eq_true rfl) dX4_init_9 ⟨(Nat.le_of_ble_eq_true rfl), (Nat.le_of_ble_eq_true rfl)⟩ (fun H locs haf hS => ?_)
  obtain ⟨xq3, xq4, hP1, hD1⟩ := haf.1
  obtain ⟨hP, hD⟩ := haf.2.1 _ hP1 hD1
  have hP : va_P G classes [(h0, .inr (4, [.null, .null, .null, .int 0, .int 0, .int 0, .int 0])), (nq1, .inr (1, [.ref xq3, .ref xq4, .int 0])), (xq3, .inl (cy 0, 48, .inl (fun _ => 0))), (xq4, .inl (cy 0, 48, .inl (fun _ => 0)))] H := hP
  refine va_putF (D := G) (ci := 4) (v := .ref nq1) (ty := (.object "ClickStreet$Formula")) (C := RX4) (T := TX4) (N := 7) hx hb hts inB4 tyX4 tyX4_ok nmX4 hown hE.1 hP hD hS 0 rfl rfl 0 (by decide) (hts _ m_358) (fun _ h9 => h9) rfl hin rfl (by decide +kernel) rfl rfl (Nat.le_of_ble_eq_true rfl) dX4_init_12 (fun H locs hP hD hS => ?_)
  have hP : va_P G classes [(h0, .inr (4, [.ref nq1, .null, .null, .int 0, .int 0, .int 0, .int 0])), (nq1, .inr (1, [.ref xq3, .ref xq4, .int 0])), (xq3, .inl (cy 0, 48, .inl (fun _ => 0))), (xq4, .inl (cy 0, 48, .inl (fun _ => 0)))] H := hP
  refine lv_aload_n hx hb dX4_init_15 rfl (lv_at hl 0 rfl) ?_
  refine va_new (ci := 5) (fs := [.null, .int 0]) (C := RX5) (T := TX5) (N := 2) hx hb hts inB5 tyX5 tyX5_ok hown (hts _ m_355) (hts _ m_200) (hts _ m_85) hE.1 hP hD hS hA rfl df5 (Nat.le_of_ble_eq_true rfl) (Nat.le_of_ble_eq_true rfl) dX4_init_16 (fun nq5 H hP hD hS => ?_)
  have hP : va_P G classes [(h0, .inr (4, [.ref nq1, .null, .null, .int 0, .int 0, .int 0, .int 0])), (nq1, .inr (1, [.ref xq3, .ref xq4, .int 0])), (xq3, .inl (cy 0, 48, .inl (fun _ => 0))), (xq4, .inl (cy 0, 48, .inl (fun _ => 0))), (nq5, .inr (5, [.null, .int 0]))] H := hP
  refine lv_dup hx hb dX4_init_19 rfl ?_
  refine lv_iconst (v := 0) hx hb dX4_init_20 (by decide) ?_
  refine wI (B := (B_c_X5_init G cy sk (va_A [(nq5, .inr (5, [.null, .int 0]))] H.size) nq5 0 0)) (wr := [(h0, .inr (4, [.ref nq1, .null, .null, .int 0, .int 0, .int 0, .int 0])), (nq1, .inr (1, [.ref xq3, .ref xq4, .int 0])), (xq3, .inl (cy 0, 48, .inl (fun _ => 0))), (xq4, .inl (cy 0, 48, .inl (fun _ => 0)))]) (rest := [.ref nq5, .ref h0]) hx hb hml hown hts hE (c_X5_init l G cy sk H.size nq5 0 0 rfl (by decide)) kI_X5_init m_356 rfl rfl ⟨(Nat.le_of_ble_eq_true rfl), (Nat.le_of_ble_eq_true rfl)⟩ hP hD hS hA [4] [0, 1, 2, 3] rfl rfl rfl rfl (by decide) rfl rfl hl.1 (Nat.le_of_ble_eq_true rfl) dX4_init_21 ⟨(Nat.le_of_ble_eq_true rfl), (Nat.le_of_ble_eq_true rfl)⟩ (fun H locs haf hS => ?_)
  obtain ⟨xq7, hP1, hD1⟩ := haf.1
  obtain ⟨hP, hD⟩ := haf.2.1 _ hP1 hD1
  have hP : va_P G classes [(h0, .inr (4, [.ref nq1, .null, .null, .int 0, .int 0, .int 0, .int 0])), (nq1, .inr (1, [.ref xq3, .ref xq4, .int 0])), (xq3, .inl (cy 0, 48, .inl (fun _ => 0))), (xq4, .inl (cy 0, 48, .inl (fun _ => 0))), (nq5, .inr (5, [.ref xq7, .int 0])), (xq7, .inl (cy 0, 0, .inl (fun _ => 0)))] H := hP
  refine va_put (D := G) (ci := 4) (v := .ref nq5) (ty := (.object "ClickStreet$Row")) (C := RX4) (T := TX4) (N := 7) hx hb hts inB4 tyX4 tyX4_ok nmX4 hown hE.1 hP hD hS 0 rfl rfl 1 (by decide) (hts _ m_360) (fun _ h9 => h9) rfl (by decide +kernel) rfl rfl (Nat.le_of_ble_eq_true rfl) dX4_init_24 (fun H locs hP hD hS => ?_)
  have hP : va_P G classes [(h0, .inr (4, [.ref nq1, .ref nq5, .null, .int 0, .int 0, .int 0, .int 0])), (nq1, .inr (1, [.ref xq3, .ref xq4, .int 0])), (xq3, .inl (cy 0, 48, .inl (fun _ => 0))), (xq4, .inl (cy 0, 48, .inl (fun _ => 0))), (nq5, .inr (5, [.ref xq7, .int 0])), (xq7, .inl (cy 0, 0, .inl (fun _ => 0)))] H := hP
  refine lv_aload_n hx hb dX4_init_27 rfl (lv_at hl 0 rfl) ?_
  refine va_ldcS hx hb hown (eN_0 hE) dX4_init_28 ?_
  refine va_put (D := G) (ci := 4) (v := .ref (sk 0)) (ty := (.object "java/lang/String")) (C := RX4) (T := TX4) (N := 7) hx hb hts inB4 tyX4 tyX4_ok nmX4 hown hE.1 hP hD hS 0 rfl rfl 2 (by decide) (hts _ m_361) (fun _ h9 => h9) rfl (by decide +kernel) rfl rfl (Nat.le_of_ble_eq_true rfl) dX4_init_30 (fun H locs hP hD hS => ?_)
  have hP : va_P G classes [(h0, .inr (4, [.ref nq1, .ref nq5, .ref (sk 0), .int 0, .int 0, .int 0, .int 0])), (nq1, .inr (1, [.ref xq3, .ref xq4, .int 0])), (xq3, .inl (cy 0, 48, .inl (fun _ => 0))), (xq4, .inl (cy 0, 48, .inl (fun _ => 0))), (nq5, .inr (5, [.ref xq7, .int 0])), (xq7, .inl (cy 0, 0, .inl (fun _ => 0)))] H := hP
  refine lv_aload_n hx hb dX4_init_33 rfl (lv_at hl 0 rfl) ?_
  refine lv_iconst (v := 0) hx hb dX4_init_34 (by decide) ?_
  refine va_put (D := G) (ci := 4) (v := .int 0) (ty := .int) (C := RX4) (T := TX4) (N := 7) hx hb hts inB4 tyX4 tyX4_ok nmX4 hown hE.1 hP hD hS 0 rfl rfl 3 (by decide) (hts _ m_362) (fun _ h9 => h9) rfl (by decide +kernel) rfl rfl (Nat.le_of_ble_eq_true rfl) dX4_init_35 (fun H locs hP hD hS => ?_)
  have hP : va_P G classes [(h0, .inr (4, [.ref nq1, .ref nq5, .ref (sk 0), .int 0, .int 0, .int 0, .int 0])), (nq1, .inr (1, [.ref xq3, .ref xq4, .int 0])), (xq3, .inl (cy 0, 48, .inl (fun _ => 0))), (xq4, .inl (cy 0, 48, .inl (fun _ => 0))), (nq5, .inr (5, [.ref xq7, .int 0])), (xq7, .inl (cy 0, 0, .inl (fun _ => 0)))] H := hP
  refine lv_aload_n hx hb dX4_init_38 rfl (lv_at hl 0 rfl) ?_
  refine lv_iconst (v := (-1)) hx hb dX4_init_39 (by decide) ?_
  refine va_put (D := G) (ci := 4) (v := .int (-1)) (ty := .int) (C := RX4) (T := TX4) (N := 7) hx hb hts inB4 tyX4 tyX4_ok nmX4 hown hE.1 hP hD hS 0 rfl rfl 4 (by decide) (hts _ m_363) (fun _ h9 => h9) rfl (by decide +kernel) rfl rfl (Nat.le_of_ble_eq_true rfl) dX4_init_40 (fun H locs hP hD hS => ?_)
  have hP : va_P G classes [(h0, .inr (4, [.ref nq1, .ref nq5, .ref (sk 0), .int 0, .int (-1), .int 0, .int 0])), (nq1, .inr (1, [.ref xq3, .ref xq4, .int 0])), (xq3, .inl (cy 0, 48, .inl (fun _ => 0))), (xq4, .inl (cy 0, 48, .inl (fun _ => 0))), (nq5, .inr (5, [.ref xq7, .int 0])), (xq7, .inl (cy 0, 0, .inl (fun _ => 0)))] H := hP
  refine lv_aload_n hx hb dX4_init_43 rfl (lv_at hl 0 rfl) ?_
  refine lv_iconst (v := 0) hx hb dX4_init_44 (by decide) ?_
  refine va_put (D := G) (ci := 4) (v := .int 0) (ty := .int) (C := RX4) (T := TX4) (N := 7) hx hb hts inB4 tyX4 tyX4_ok nmX4 hown hE.1 hP hD hS 0 rfl rfl 5 (by decide) (hts _ m_364) (fun _ h9 => h9) rfl (by decide +kernel) rfl rfl (Nat.le_of_ble_eq_true rfl) dX4_init_45 (fun H locs hP hD hS => ?_)
  have hP : va_P G classes [(h0, .inr (4, [.ref nq1, .ref nq5, .ref (sk 0), .int 0, .int (-1), .int 0, .int 0])), (nq1, .inr (1, [.ref xq3, .ref xq4, .int 0])), (xq3, .inl (cy 0, 48, .inl (fun _ => 0))), (xq4, .inl (cy 0, 48, .inl (fun _ => 0))), (nq5, .inr (5, [.ref xq7, .int 0])), (xq7, .inl (cy 0, 0, .inl (fun _ => 0)))] H := hP
  refine lv_aload_n hx hb dX4_init_48 rfl (lv_at hl 0 rfl) ?_
  refine lv_iconst (v := 0) hx hb dX4_init_49 (by decide) ?_
  refine va_put (D := G) (ci := 4) (v := .int 0) (ty := .int) (C := RX4) (T := TX4) (N := 7) hx hb hts inB4 tyX4 tyX4_ok nmX4 hown hE.1 hP hD hS 0 rfl rfl 6 (by decide) (hts _ m_365) (fun _ h9 => h9) rfl (by decide +kernel) rfl rfl (Nat.le_of_ble_eq_true rfl) dX4_init_50 (fun H locs hP hD hS => ?_)
  have hP : va_P G classes [(h0, .inr (4, [.ref nq1, .ref nq5, .ref (sk 0), .int 0, .int (-1), .int 0, .int 0])), (nq1, .inr (1, [.ref xq3, .ref xq4, .int 0])), (xq3, .inl (cy 0, 48, .inl (fun _ => 0))), (xq4, .inl (cy 0, 48, .inl (fun _ => 0))), (nq5, .inr (5, [.ref xq7, .int 0])), (xq7, .inl (cy 0, 0, .inl (fun _ => 0)))] H := hP
  have hP9 : va_P G classes [(h0, .inr (4, [.ref nq1, .ref nq5, .ref (sk 0), .int 0, .int (-1), .int 0, .int 0])), (nq1, .inr (1, [.ref xq3, .ref xq4, .int 0])), (xq3, .inl (cy 0, 48, .inl (fun _ => 0))), (xq4, .inl (cy 0, 48, .inl (fun _ => 0))), (nq5, .inr (5, [.ref xq7, .int 0])), (xq7, .inl (cy 0, 0, .inl (fun _ => 0)))] H := hP
  have hD9 : va_D A [(h0, .inr (4, [.ref nq1, .ref nq5, .ref (sk 0), .int 0, .int (-1), .int 0, .int 0])), (nq1, .inr (1, [.ref xq3, .ref xq4, .int 0])), (xq3, .inl (cy 0, 48, .inl (fun _ => 0))), (xq4, .inl (cy 0, 48, .inl (fun _ => 0))), (nq5, .inr (5, [.ref xq7, .int 0])), (xq7, .inl (cy 0, 0, .inl (fun _ => 0)))] := hD
  refine W.widen (k := 5) (n := 201) (by first | exact Nat.le_of_ble_eq_true rfl | omega) (by first | exact Nat.le_of_ble_eq_true rfl | omega) ?_
  exact W.vret hx hb hr (fun t ht hW => ⟨⟨(), rfl, trivial, by dsimp only; rw [ht]; exact ⟨nq1, nq5, xq3, xq4, xq7, (sk 0), rfl, hP9, hD9⟩⟩, hS.F ht⟩) hS.2.2 dX4_init_53
def B_c_X0_init (G : va_G) (cy : Nat → ClassId) (sk : Nat → Nat) (A : Nat → Prop) (h0 : Nat) (H : Heap) : Prop := ∃ (fc : Nat) (fd_ : Nat) (fl_ : Nat) (fh : Nat), va_P G classes [(h0, .inr (0, [.ref fc, .ref fd_, .ref fl_, .ref fh, .int 0, .int 0])), (fc, .inl (cy 0, 192, .inl (fun _ => 0))), (fd_, .inl (cy 1, 192, .inl (fun _ => 0))), (fl_, .inl (cy 2, 24, .inr (.inl (fun _ => 0)))), (fh, .inl (cy 0, 8, .inl (fun _ => 0)))] H ∧ va_D A [(h0, .inr (0, [.ref fc, .ref fd_, .ref fl_, .ref fh, .int 0, .int 0])), (fc, .inl (cy 0, 192, .inl (fun _ => 0))), (fd_, .inl (cy 1, 192, .inl (fun _ => 0))), (fl_, .inl (cy 2, 24, .inr (.inl (fun _ => 0)))), (fh, .inl (cy 0, 8, .inl (fun _ => 0)))]
set_option maxHeartbeats 4000000 in
set_option maxRecDepth 100000 in
theorem c_X0_init (l : Launch) (G : va_G) (cy : Nat → ClassId) (sk : Nat → Nat) (sz : Nat) (h0 : Nat)  : Met l yX0_init (wsO yX0_init cX0_init 1 none) ({ frames := 1, cells := 4, slots := 416, locals := 12 }) (va_Pc [.ref h0] (PR G cy sk sz [(h0, .inr (0, [.null, .null, .null, .null, .int 0, .int 0]))])) (va_Qv (fun (_ : Unit) => True) (fun _ t => B_c_X0_init G cy sk (va_A [(h0, .inr (0, [.null, .null, .null, .null, .int 0, .int 0]))] sz) h0 t.heap) (va_A [(h0, .inr (0, [.null, .null, .null, .null, .int 0, .int 0]))] sz)) 4 416 (va_A [(h0, .inr (0, [.null, .null, .null, .null, .int 0, .int 0]))] sz) := by
  refine mt (by decide) (Nat.le_of_ble_eq_true rfl) ?_
  intro p e s m below meth c ls hx hb hr hml hts hown hlocks hin hsz hP hE hD hl
  subst hsz
  have hl : lv_has ls 1 [(0, .ref h0)] := hl
  have hD := hD.self (sz := s.heap.size)
  generalize hAe : va_A [(h0, .inr (0, [.null, .null, .null, .null, .int 0, .int 0]))] s.heap.size = A at hD ⊢
  have hA : ∀ q : Nat, s.heap.size ≤ q → A q := fun q h => by rw [← hAe]; exact Or.inr h
  have hS : va_S A s.heap s.heap [] := va_S.rf
  refine lv_aload_n hx hb dX0_init_0 rfl (lv_at hl 0 rfl) ?_
  refine W.objInit hx hb hown (hts _ m_387) (hts _ m_107) (hts _ m_108) rfl (by rw [hml]; exact hl.1) rfl dX0_init_1 (Nat.le_of_ble_eq_true rfl) (Nat.le_of_ble_eq_true rfl) ?_
  refine W.eq (g2 := F0 m 4 ls []) rfl ?_
  refine lv_aload_n hx hb dX0_init_4 rfl (lv_at hl 0 rfl) ?_
  refine lv_sipush (v := 192) hx hb dX0_init_5 (by decide) ?_
  refine nwI (n := 192) (N := 192) hx hb hts m_146 hE hP hD hS hA (by decide) (by decide) (Nat.le_of_ble_eq_true rfl) (Nat.le_of_ble_eq_true rfl) (Nat.le_of_ble_eq_true rfl) dX0_init_8 (fun nq1 H hP hD hS => ?_)
  have hP : va_P G classes [(h0, .inr (0, [.null, .null, .null, .null, .int 0, .int 0])), (nq1, .inl (cy 0, 192, .inl (fun _ => 0)))] H := hP
  refine va_putF (D := G) (ci := 0) (v := .ref nq1) (ty := (.array .int)) (C := RX0) (T := TX0) (N := 6) hx hb hts inB0 tyX0 tyX0_ok nmX0 hown hE.1 hP hD hS 0 rfl rfl 0 (by decide) (hts _ m_388) (fun _ h9 => h9) rfl hin rfl (by decide +kernel) rfl rfl (Nat.le_of_ble_eq_true rfl) dX0_init_10 (fun H locs hP hD hS => ?_)
  have hP : va_P G classes [(h0, .inr (0, [.ref nq1, .null, .null, .null, .int 0, .int 0])), (nq1, .inl (cy 0, 192, .inl (fun _ => 0)))] H := hP
  refine lv_aload_n hx hb dX0_init_13 rfl (lv_at hl 0 rfl) ?_
  refine lv_sipush (v := 192) hx hb dX0_init_14 (by decide) ?_
  refine nwZ (n := 192) (N := 192) hx hb hts m_409 hE hP hD hS hA (by decide) (by decide) (Nat.le_of_ble_eq_true rfl) (Nat.le_of_ble_eq_true rfl) (Nat.le_of_ble_eq_true rfl) dX0_init_17 (fun nq2 H hP hD hS => ?_)
  have hP : va_P G classes [(h0, .inr (0, [.ref nq1, .null, .null, .null, .int 0, .int 0])), (nq1, .inl (cy 0, 192, .inl (fun _ => 0))), (nq2, .inl (cy 1, 192, .inl (fun _ => 0)))] H := hP
  refine va_putF (D := G) (ci := 0) (v := .ref nq2) (ty := (.array .boolean)) (C := RX0) (T := TX0) (N := 6) hx hb hts inB0 tyX0 tyX0_ok nmX0 hown hE.1 hP hD hS 0 rfl rfl 1 (by decide) (hts _ m_389) (fun _ h9 => h9) rfl hin rfl (by decide +kernel) rfl rfl (Nat.le_of_ble_eq_true rfl) dX0_init_19 (fun H locs hP hD hS => ?_)
  have hP : va_P G classes [(h0, .inr (0, [.ref nq1, .ref nq2, .null, .null, .int 0, .int 0])), (nq1, .inl (cy 0, 192, .inl (fun _ => 0))), (nq2, .inl (cy 1, 192, .inl (fun _ => 0)))] H := hP
  refine lv_aload_n hx hb dX0_init_22 rfl (lv_at hl 0 rfl) ?_
  refine lv_bipush (v := 24) hx hb dX0_init_23 (by decide) ?_
  refine nwJ (n := 24) (N := 24) hx hb hts m_410 hE hP hD hS hA (by decide) (by decide) (Nat.le_of_ble_eq_true rfl) (Nat.le_of_ble_eq_true rfl) (Nat.le_of_ble_eq_true rfl) dX0_init_25 (fun nq3 H hP hD hS => ?_)
  have hP : va_P G classes [(h0, .inr (0, [.ref nq1, .ref nq2, .null, .null, .int 0, .int 0])), (nq1, .inl (cy 0, 192, .inl (fun _ => 0))), (nq2, .inl (cy 1, 192, .inl (fun _ => 0))), (nq3, .inl (cy 2, 24, .inr (.inl (fun _ => 0))))] H := hP
  refine va_putF (D := G) (ci := 0) (v := .ref nq3) (ty := (.array .long)) (C := RX0) (T := TX0) (N := 6) hx hb hts inB0 tyX0 tyX0_ok nmX0 hown hE.1 hP hD hS 0 rfl rfl 2 (by decide) (hts _ m_390) (fun _ h9 => h9) rfl hin rfl (by decide +kernel) rfl rfl (Nat.le_of_ble_eq_true rfl) dX0_init_27 (fun H locs hP hD hS => ?_)
  have hP : va_P G classes [(h0, .inr (0, [.ref nq1, .ref nq2, .ref nq3, .null, .int 0, .int 0])), (nq1, .inl (cy 0, 192, .inl (fun _ => 0))), (nq2, .inl (cy 1, 192, .inl (fun _ => 0))), (nq3, .inl (cy 2, 24, .inr (.inl (fun _ => 0))))] H := hP
  refine lv_aload_n hx hb dX0_init_30 rfl (lv_at hl 0 rfl) ?_
  refine lv_bipush (v := 8) hx hb dX0_init_31 (by decide) ?_
  refine nwI (n := 8) (N := 8) hx hb hts m_146 hE hP hD hS hA (by decide) (by decide) (Nat.le_of_ble_eq_true rfl) (Nat.le_of_ble_eq_true rfl) (Nat.le_of_ble_eq_true rfl) dX0_init_33 (fun nq4 H hP hD hS => ?_)
  have hP : va_P G classes [(h0, .inr (0, [.ref nq1, .ref nq2, .ref nq3, .null, .int 0, .int 0])), (nq1, .inl (cy 0, 192, .inl (fun _ => 0))), (nq2, .inl (cy 1, 192, .inl (fun _ => 0))), (nq3, .inl (cy 2, 24, .inr (.inl (fun _ => 0)))), (nq4, .inl (cy 0, 8, .inl (fun _ => 0)))] H := hP
  refine va_putF (D := G) (ci := 0) (v := .ref nq4) (ty := (.array .int)) (C := RX0) (T := TX0) (N := 6) hx hb hts inB0 tyX0 tyX0_ok nmX0 hown hE.1 hP hD hS 0 rfl rfl 3 (by decide) (hts _ m_391) (fun _ h9 => h9) rfl hin rfl (by decide +kernel) rfl rfl (Nat.le_of_ble_eq_true rfl) dX0_init_35 (fun H locs hP hD hS => ?_)
  have hP : va_P G classes [(h0, .inr (0, [.ref nq1, .ref nq2, .ref nq3, .ref nq4, .int 0, .int 0])), (nq1, .inl (cy 0, 192, .inl (fun _ => 0))), (nq2, .inl (cy 1, 192, .inl (fun _ => 0))), (nq3, .inl (cy 2, 24, .inr (.inl (fun _ => 0)))), (nq4, .inl (cy 0, 8, .inl (fun _ => 0)))] H := hP
  refine lv_aload_n hx hb dX0_init_38 rfl (lv_at hl 0 rfl) ?_
  refine lv_iconst (v := 0) hx hb dX0_init_39 (by decide) ?_
  refine va_put (D := G) (ci := 0) (v := .int 0) (ty := .int) (C := RX0) (T := TX0) (N := 6) hx hb hts inB0 tyX0 tyX0_ok nmX0 hown hE.1 hP hD hS 0 rfl rfl 4 (by decide) (hts _ m_392) (fun _ h9 => h9) rfl (by decide +kernel) rfl rfl (Nat.le_of_ble_eq_true rfl) dX0_init_40 (fun H locs hP hD hS => ?_)
  have hP : va_P G classes [(h0, .inr (0, [.ref nq1, .ref nq2, .ref nq3, .ref nq4, .int 0, .int 0])), (nq1, .inl (cy 0, 192, .inl (fun _ => 0))), (nq2, .inl (cy 1, 192, .inl (fun _ => 0))), (nq3, .inl (cy 2, 24, .inr (.inl (fun _ => 0)))), (nq4, .inl (cy 0, 8, .inl (fun _ => 0)))] H := hP
  refine lv_aload_n hx hb dX0_init_43 rfl (lv_at hl 0 rfl) ?_
  refine lv_iconst (v := 0) hx hb dX0_init_44 (by decide) ?_
  refine va_put (D := G) (ci := 0) (v := .int 0) (ty := .int) (C := RX0) (T := TX0) (N := 6) hx hb hts inB0 tyX0 tyX0_ok nmX0 hown hE.1 hP hD hS 0 rfl rfl 5 (by decide) (hts _ m_394) (fun _ h9 => h9) rfl (by decide +kernel) rfl rfl (Nat.le_of_ble_eq_true rfl) dX0_init_45 (fun H locs hP hD hS => ?_)
  have hP : va_P G classes [(h0, .inr (0, [.ref nq1, .ref nq2, .ref nq3, .ref nq4, .int 0, .int 0])), (nq1, .inl (cy 0, 192, .inl (fun _ => 0))), (nq2, .inl (cy 1, 192, .inl (fun _ => 0))), (nq3, .inl (cy 2, 24, .inr (.inl (fun _ => 0)))), (nq4, .inl (cy 0, 8, .inl (fun _ => 0)))] H := hP
  have hP9 : va_P G classes [(h0, .inr (0, [.ref nq1, .ref nq2, .ref nq3, .ref nq4, .int 0, .int 0])), (nq1, .inl (cy 0, 192, .inl (fun _ => 0))), (nq2, .inl (cy 1, 192, .inl (fun _ => 0))), (nq3, .inl (cy 2, 24, .inr (.inl (fun _ => 0)))), (nq4, .inl (cy 0, 8, .inl (fun _ => 0)))] H := hP
  have hD9 : va_D A [(h0, .inr (0, [.ref nq1, .ref nq2, .ref nq3, .ref nq4, .int 0, .int 0])), (nq1, .inl (cy 0, 192, .inl (fun _ => 0))), (nq2, .inl (cy 1, 192, .inl (fun _ => 0))), (nq3, .inl (cy 2, 24, .inr (.inl (fun _ => 0)))), (nq4, .inl (cy 0, 8, .inl (fun _ => 0)))] := hD
  refine W.widen (k := 4) (n := 416) (by first | exact Nat.le_of_ble_eq_true rfl | omega) (by first | exact Nat.le_of_ble_eq_true rfl | omega) ?_
  exact W.vret hx hb hr (fun t ht hW => ⟨⟨(), rfl, trivial, by dsimp only; rw [ht]; exact ⟨nq1, nq2, nq3, nq4, hP9, hD9⟩⟩, hS.F ht⟩) hS.2.2 dX0_init_48
def B_c_X8_init (G : va_G) (cy : Nat → ClassId) (sk : Nat → Nat) (A : Nat → Prop) (h0 : Nat) (H : Heap) : Prop := ∃ (bg : Nat) (bga : Nat) (vt : Nat) (vta : Nat), va_P G classes [(h0, .inr (8, [.ref bg, .ref vt, .int 0, .int 0, .int 0, .int 0])), (bg, .inr (5, [.ref bga, .int 0])), (bga, .inl (cy 0, 30, .inl (fun _ => 0))), (vt, .inr (5, [.ref vta, .int 0])), (vta, .inl (cy 0, 30, .inl (fun _ => 0)))] H ∧ va_D A [(h0, .inr (8, [.ref bg, .ref vt, .int 0, .int 0, .int 0, .int 0])), (bg, .inr (5, [.ref bga, .int 0])), (bga, .inl (cy 0, 30, .inl (fun _ => 0))), (vt, .inr (5, [.ref vta, .int 0])), (vta, .inl (cy 0, 30, .inl (fun _ => 0)))]
set_option maxHeartbeats 4000000 in
set_option maxRecDepth 100000 in
theorem c_X8_init (l : Launch) (G : va_G) (cy : Nat → ClassId) (sk : Nat → Nat) (sz : Nat) (h0 : Nat)  : Met l yX8_init (wsO yX8_init cX8_init 1 none) ({ frames := 2, cells := 4, slots := 204, locals := 35 }) (va_Pc [.ref h0] (PR G cy sk sz [(h0, .inr (8, [.null, .null, .int 0, .int 0, .int 0, .int 0]))])) (va_Qv (fun (_ : Unit) => True) (fun _ t => B_c_X8_init G cy sk (va_A [(h0, .inr (8, [.null, .null, .int 0, .int 0, .int 0, .int 0]))] sz) h0 t.heap) (va_A [(h0, .inr (8, [.null, .null, .int 0, .int 0, .int 0, .int 0]))] sz)) 4 204 (va_A [(h0, .inr (8, [.null, .null, .int 0, .int 0, .int 0, .int 0]))] sz) := by
  refine mt (by decide) (Nat.le_of_ble_eq_true rfl) ?_
  intro p e s m below meth c ls hx hb hr hml hts hown hlocks hin hsz hP hE hD hl
  subst hsz
  have hl : lv_has ls 1 [(0, .ref h0)] := hl
  have hD := hD.self (sz := s.heap.size)
  generalize hAe : va_A [(h0, .inr (8, [.null, .null, .int 0, .int 0, .int 0, .int 0]))] s.heap.size = A at hD ⊢
  have hA : ∀ q : Nat, s.heap.size ≤ q → A q := fun q h => by rw [← hAe]; exact Or.inr h
  have hS : va_S A s.heap s.heap [] := va_S.rf
  refine lv_aload_n hx hb dX8_init_0 rfl (lv_at hl 0 rfl) ?_
  refine W.objInit hx hb hown (hts _ m_416) (hts _ m_107) (hts _ m_108) rfl (by rw [hml]; exact hl.1) rfl dX8_init_1 (Nat.le_of_ble_eq_true rfl) (Nat.le_of_ble_eq_true rfl) ?_
  refine W.eq (g2 := F0 m 4 ls []) rfl ?_
  refine lv_aload_n hx hb dX8_init_4 rfl (lv_at hl 0 rfl) ?_
  refine va_new (ci := 5) (fs := [.null, .int 0]) (C := RX5) (T := TX5) (N := 2) hx hb hts inB5 tyX5 tyX5_ok hown (hts _ m_417) (hts _ m_200) (hts _ m_85) hE.1 hP hD hS hA rfl df5 (Nat.le_of_ble_eq_true rfl) (Nat.le_of_ble_eq_true rfl) dX8_init_5 (fun nq1 H hP hD hS => ?_)
  have hP : va_P G classes [(h0, .inr (8, [.null, .null, .int 0, .int 0, .int 0, .int 0])), (nq1, .inr (5, [.null, .int 0]))] H := hP
  refine lv_dup hx hb dX8_init_8 rfl ?_
  refine lv_bipush (v := 30) hx hb dX8_init_9 (by decide) ?_
  refine wI (B := (B_c_X5_init G cy sk (va_A [(nq1, .inr (5, [.null, .int 0]))] H.size) nq1 30 30)) (wr := [(h0, .inr (8, [.null, .null, .int 0, .int 0, .int 0, .int 0]))]) (rest := [.ref nq1, .ref h0]) hx hb hml hown hts hE (c_X5_init l G cy sk H.size nq1 30 30 rfl (by decide)) kI_X5_init m_418 rfl rfl ⟨(Nat.le_of_ble_eq_true rfl), (Nat.le_of_ble_eq_true rfl)⟩ hP hD hS hA [1] [0] rfl rfl rfl rfl (by decide) rfl rfl hl.1 (Nat.le_of_ble_eq_true rfl) dX8_init_11 ⟨(Nat.le_of_ble_eq_true rfl), (Nat.le_of_ble_eq_true rfl)⟩ (fun H locs haf hS => ?_)
  obtain ⟨xq3, hP1, hD1⟩ := haf.1
  obtain ⟨hP, hD⟩ := haf.2.1 _ hP1 hD1
  have hP : va_P G classes [(h0, .inr (8, [.null, .null, .int 0, .int 0, .int 0, .int 0])), (nq1, .inr (5, [.ref xq3, .int 0])), (xq3, .inl (cy 0, 30, .inl (fun _ => 0)))] H := hP
  refine va_putF (D := G) (ci := 8) (v := .ref nq1) (ty := (.object "ClickStreet$Row")) (C := RX8) (T := TX8) (N := 6) hx hb hts inB8 tyX8 tyX8_ok nmX8 hown hE.1 hP hD hS 0 rfl rfl 0 (by decide) (hts _ m_419) (fun _ h9 => h9) rfl hin rfl (by decide +kernel) rfl rfl (Nat.le_of_ble_eq_true rfl) dX8_init_14 (fun H locs hP hD hS => ?_)
  have hP : va_P G classes [(h0, .inr (8, [.ref nq1, .null, .int 0, .int 0, .int 0, .int 0])), (nq1, .inr (5, [.ref xq3, .int 0])), (xq3, .inl (cy 0, 30, .inl (fun _ => 0)))] H := hP
  refine lv_aload_n hx hb dX8_init_17 rfl (lv_at hl 0 rfl) ?_
  refine va_new (ci := 5) (fs := [.null, .int 0]) (C := RX5) (T := TX5) (N := 2) hx hb hts inB5 tyX5 tyX5_ok hown (hts _ m_417) (hts _ m_200) (hts _ m_85) hE.1 hP hD hS hA rfl df5 (Nat.le_of_ble_eq_true rfl) (Nat.le_of_ble_eq_true rfl) dX8_init_18 (fun nq4 H hP hD hS => ?_)
  have hP : va_P G classes [(h0, .inr (8, [.ref nq1, .null, .int 0, .int 0, .int 0, .int 0])), (nq1, .inr (5, [.ref xq3, .int 0])), (xq3, .inl (cy 0, 30, .inl (fun _ => 0))), (nq4, .inr (5, [.null, .int 0]))] H := hP
  refine lv_dup hx hb dX8_init_21 rfl ?_
  refine lv_bipush (v := 30) hx hb dX8_init_22 (by decide) ?_
  refine wI (B := (B_c_X5_init G cy sk (va_A [(nq4, .inr (5, [.null, .int 0]))] H.size) nq4 30 30)) (wr := [(h0, .inr (8, [.ref nq1, .null, .int 0, .int 0, .int 0, .int 0])), (nq1, .inr (5, [.ref xq3, .int 0])), (xq3, .inl (cy 0, 30, .inl (fun _ => 0)))]) (rest := [.ref nq4, .ref h0]) hx hb hml hown hts hE (c_X5_init l G cy sk H.size nq4 30 30 rfl (by decide)) kI_X5_init m_418 rfl rfl ⟨(Nat.le_of_ble_eq_true rfl), (Nat.le_of_ble_eq_true rfl)⟩ hP hD hS hA [3] [0, 1, 2] rfl rfl rfl rfl (by decide) rfl rfl hl.1 (Nat.le_of_ble_eq_true rfl) dX8_init_24 ⟨(Nat.le_of_ble_eq_true rfl), (Nat.le_of_ble_eq_true rfl)⟩ (fun H locs haf hS => ?_)
  obtain ⟨xq6, hP1, hD1⟩ := haf.1
  obtain ⟨hP, hD⟩ := haf.2.1 _ hP1 hD1
  have hP : va_P G classes [(h0, .inr (8, [.ref nq1, .null, .int 0, .int 0, .int 0, .int 0])), (nq1, .inr (5, [.ref xq3, .int 0])), (xq3, .inl (cy 0, 30, .inl (fun _ => 0))), (nq4, .inr (5, [.ref xq6, .int 0])), (xq6, .inl (cy 0, 30, .inl (fun _ => 0)))] H := hP
  refine va_putF (D := G) (ci := 8) (v := .ref nq4) (ty := (.object "ClickStreet$Row")) (C := RX8) (T := TX8) (N := 6) hx hb hts inB8 tyX8 tyX8_ok nmX8 hown hE.1 hP hD hS 0 rfl rfl 1 (by decide) (hts _ m_420) (fun _ h9 => h9) rfl hin rfl (by decide +kernel) rfl rfl (Nat.le_of_ble_eq_true rfl) dX8_init_27 (fun H locs hP hD hS => ?_)
  have hP : va_P G classes [(h0, .inr (8, [.ref nq1, .ref nq4, .int 0, .int 0, .int 0, .int 0])), (nq1, .inr (5, [.ref xq3, .int 0])), (xq3, .inl (cy 0, 30, .inl (fun _ => 0))), (nq4, .inr (5, [.ref xq6, .int 0])), (xq6, .inl (cy 0, 30, .inl (fun _ => 0)))] H := hP
  refine lv_aload_n hx hb dX8_init_30 rfl (lv_at hl 0 rfl) ?_
  refine lv_iconst (v := 0) hx hb dX8_init_31 (by decide) ?_
  refine va_put (D := G) (ci := 8) (v := .int 0) (ty := .int) (C := RX8) (T := TX8) (N := 6) hx hb hts inB8 tyX8 tyX8_ok nmX8 hown hE.1 hP hD hS 0 rfl rfl 2 (by decide) (hts _ m_422) (fun _ h9 => h9) rfl (by decide +kernel) rfl rfl (Nat.le_of_ble_eq_true rfl) dX8_init_32 (fun H locs hP hD hS => ?_)
  have hP : va_P G classes [(h0, .inr (8, [.ref nq1, .ref nq4, .int 0, .int 0, .int 0, .int 0])), (nq1, .inr (5, [.ref xq3, .int 0])), (xq3, .inl (cy 0, 30, .inl (fun _ => 0))), (nq4, .inr (5, [.ref xq6, .int 0])), (xq6, .inl (cy 0, 30, .inl (fun _ => 0)))] H := hP
  refine lv_aload_n hx hb dX8_init_35 rfl (lv_at hl 0 rfl) ?_
  refine lv_iconst (v := 0) hx hb dX8_init_36 (by decide) ?_
  refine va_put (D := G) (ci := 8) (v := .int 0) (ty := .int) (C := RX8) (T := TX8) (N := 6) hx hb hts inB8 tyX8 tyX8_ok nmX8 hown hE.1 hP hD hS 0 rfl rfl 3 (by decide) (hts _ m_423) (fun _ h9 => h9) rfl (by decide +kernel) rfl rfl (Nat.le_of_ble_eq_true rfl) dX8_init_37 (fun H locs hP hD hS => ?_)
  have hP : va_P G classes [(h0, .inr (8, [.ref nq1, .ref nq4, .int 0, .int 0, .int 0, .int 0])), (nq1, .inr (5, [.ref xq3, .int 0])), (xq3, .inl (cy 0, 30, .inl (fun _ => 0))), (nq4, .inr (5, [.ref xq6, .int 0])), (xq6, .inl (cy 0, 30, .inl (fun _ => 0)))] H := hP
  refine lv_aload_n hx hb dX8_init_40 rfl (lv_at hl 0 rfl) ?_
  refine lv_iconst (v := 0) hx hb dX8_init_41 (by decide) ?_
  refine va_put (D := G) (ci := 8) (v := .int 0) (ty := .int) (C := RX8) (T := TX8) (N := 6) hx hb hts inB8 tyX8 tyX8_ok nmX8 hown hE.1 hP hD hS 0 rfl rfl 4 (by decide) (hts _ m_424) (fun _ h9 => h9) rfl (by decide +kernel) rfl rfl (Nat.le_of_ble_eq_true rfl) dX8_init_42 (fun H locs hP hD hS => ?_)
  have hP : va_P G classes [(h0, .inr (8, [.ref nq1, .ref nq4, .int 0, .int 0, .int 0, .int 0])), (nq1, .inr (5, [.ref xq3, .int 0])), (xq3, .inl (cy 0, 30, .inl (fun _ => 0))), (nq4, .inr (5, [.ref xq6, .int 0])), (xq6, .inl (cy 0, 30, .inl (fun _ => 0)))] H := hP
  refine lv_aload_n hx hb dX8_init_45 rfl (lv_at hl 0 rfl) ?_
  refine lv_iconst (v := 0) hx hb dX8_init_46 (by decide) ?_
  refine va_put (D := G) (ci := 8) (v := .int 0) (ty := .boolean) (C := RX8) (T := TX8) (N := 6) hx hb hts inB8 tyX8 tyX8_ok nmX8 hown hE.1 hP hD hS 0 rfl rfl 5 (by decide) (hts _ m_425) (fun _ h9 => h9) rfl (by decide +kernel) rfl rfl (Nat.le_of_ble_eq_true rfl) dX8_init_47 (fun H locs hP hD hS => ?_)
  have hP : va_P G classes [(h0, .inr (8, [.ref nq1, .ref nq4, .int 0, .int 0, .int 0, .int 0])), (nq1, .inr (5, [.ref xq3, .int 0])), (xq3, .inl (cy 0, 30, .inl (fun _ => 0))), (nq4, .inr (5, [.ref xq6, .int 0])), (xq6, .inl (cy 0, 30, .inl (fun _ => 0)))] H := hP
  have hP9 : va_P G classes [(h0, .inr (8, [.ref nq1, .ref nq4, .int 0, .int 0, .int 0, .int 0])), (nq1, .inr (5, [.ref xq3, .int 0])), (xq3, .inl (cy 0, 30, .inl (fun _ => 0))), (nq4, .inr (5, [.ref xq6, .int 0])), (xq6, .inl (cy 0, 30, .inl (fun _ => 0)))] H := hP
  have hD9 : va_D A [(h0, .inr (8, [.ref nq1, .ref nq4, .int 0, .int 0, .int 0, .int 0])), (nq1, .inr (5, [.ref xq3, .int 0])), (xq3, .inl (cy 0, 30, .inl (fun _ => 0))), (nq4, .inr (5, [.ref xq6, .int 0])), (xq6, .inl (cy 0, 30, .inl (fun _ => 0)))] := hD
  refine W.widen (k := 4) (n := 204) (by first | exact Nat.le_of_ble_eq_true rfl | omega) (by first | exact Nat.le_of_ble_eq_true rfl | omega) ?_
  exact W.vret hx hb hr (fun t ht hW => ⟨⟨(), rfl, trivial, by dsimp only; rw [ht]; exact ⟨nq1, xq3, nq4, xq6, hP9, hD9⟩⟩, hS.F ht⟩) hS.2.2 dX8_init_50
end
section
/-! words of the tables that are used, by their places; decode rows; classes -/
set_option maxRecDepth 20000 in
theorem m_114 : Cond.methodLink RX10 1 Lib.objectInit ∈ BASE := bmT1 36 rfl rfl
set_option maxRecDepth 20000 in
theorem m_115 : Cond.classLink RX10 7 RX7 ∈ BASE := bmT1 37 rfl rfl
set_option maxRecDepth 20000 in
theorem m_117 : Cond.methodLink RX10 9 yX7_init ∈ BASE := bmT1 39 rfl rfl
set_option maxRecDepth 20000 in
theorem m_118 : Cond.instanceMethod yX7_init ∈ BASE := bmT1 40 rfl rfl
set_option maxRecDepth 20000 in
theorem m_119 : Cond.code yX7_init cX7_init 2 none ∈ BASE := bmT1 41 rfl rfl
set_option maxRecDepth 20000 in
theorem m_147 : Cond.classLink RX10 16 RX2 ∈ BASE := bmT1 69 rfl rfl
set_option maxRecDepth 20000 in
theorem m_149 : Cond.methodLink RX10 18 yX2_init ∈ BASE := bmT1 71 rfl rfl
set_option maxRecDepth 20000 in
theorem m_150 : Cond.instanceMethod yX2_init ∈ BASE := bmT1 72 rfl rfl
set_option maxRecDepth 20000 in
theorem m_151 : Cond.code yX2_init cX2_init 2 none ∈ BASE := bmT1 73 rfl rfl
set_option maxRecDepth 20000 in
theorem m_193 : Cond.classLink RX10 23 RX3 ∈ BASE := bmT1 115 rfl rfl
set_option maxRecDepth 20000 in
theorem m_196 : Cond.instanceMethod yX3_init ∈ BASE := bmT1 118 rfl rfl
set_option maxRecDepth 20000 in
theorem m_197 : Cond.code yX3_init cX3_init 1 none ∈ BASE := bmT1 119 rfl rfl
set_option maxRecDepth 20000 in
theorem m_249 : Cond.classLink RX10 30 RX5 ∈ BASE := bmT1 171 rfl rfl
set_option maxRecDepth 20000 in
theorem m_250 : Cond.methodLink RX10 34 yX5_init ∈ BASE := bmT1 172 rfl rfl
set_option maxRecDepth 20000 in
theorem m_251 : Cond.classLink RX10 44 RX9 ∈ BASE := bmT1 173 rfl rfl
set_option maxRecDepth 20000 in
theorem m_255 : Cond.instanceMethod yX9_init ∈ BASE := bmT1 177 rfl rfl
set_option maxRecDepth 20000 in
theorem m_256 : Cond.code yX9_init cX9_init 1 none ∈ BASE := bmT1 178 rfl rfl
theorem kI_X2_init : KI yX2_init cX2_init 2 0 := ⟨m_150, rfl, m_82, m_151, nhM_5, nhV_5, pdn_30⟩
theorem kI_X3_init : KI yX3_init cX3_init 1 0 := ⟨m_196, rfl, m_84, m_197, nhM_8, nhV_8, pdn_30⟩
theorem kI_X7_init : KI yX7_init cX7_init 2 0 := ⟨m_118, rfl, m_81, m_119, nhM_1, nhV_1, pdn_30⟩
theorem kI_X9_init : KI yX9_init cX9_init 1 0 := ⟨m_255, rfl, m_87, m_256, nhM_3, nhV_3, pdn_30⟩
theorem df10 : ∀ j, j < 8 → defaultValue (tyX10 j) = vp_V [.null, .null, .null, .null, .null, .null, .int 0, .int 0] j := fun j hj => by rcases (show j = 0 ∨ j = 1 ∨ j = 2 ∨ j = 3 ∨ j = 4 ∨ j = 5 ∨ j = 6 ∨ j = 7 by omega) with rfl | rfl | rfl | rfl | rfl | rfl | rfl | rfl <;> rfl
/-! decode rows -/
theorem dX10_init_0 : decode cX10_init 0 = .ok (.aload_n 0, 1) := by decide +kernel
theorem dX10_init_1 : decode cX10_init 1 = .ok (.invokespecial 1, 3) := by decide +kernel
theorem dX10_init_4 : decode cX10_init 4 = .ok (.aload_n 0, 1) := by decide +kernel
theorem dX10_init_5 : decode cX10_init 5 = .ok (.new 7, 3) := by decide +kernel
theorem dX10_init_8 : decode cX10_init 8 = .ok (.dup, 1) := by decide +kernel
theorem dX10_init_9 : decode cX10_init 9 = .ok (.invokespecial 9, 3) := by decide +kernel
theorem dX10_init_12 : decode cX10_init 12 = .ok (.putfield 10, 3) := by decide +kernel
theorem dX10_init_15 : decode cX10_init 15 = .ok (.aload_n 0, 1) := by decide +kernel
theorem dX10_init_16 : decode cX10_init 16 = .ok (.new 16, 3) := by decide +kernel
theorem dX10_init_19 : decode cX10_init 19 = .ok (.dup, 1) := by decide +kernel
theorem dX10_init_20 : decode cX10_init 20 = .ok (.invokespecial 18, 3) := by decide +kernel
theorem dX10_init_23 : decode cX10_init 23 = .ok (.putfield 19, 3) := by decide +kernel
theorem dX10_init_26 : decode cX10_init 26 = .ok (.aload_n 0, 1) := by decide +kernel
theorem dX10_init_27 : decode cX10_init 27 = .ok (.new 23, 3) := by decide +kernel
theorem dX10_init_30 : decode cX10_init 30 = .ok (.dup, 1) := by decide +kernel
theorem dX10_init_31 : decode cX10_init 31 = .ok (.invokespecial 25, 3) := by decide +kernel
theorem dX10_init_34 : decode cX10_init 34 = .ok (.putfield 26, 3) := by decide +kernel
theorem dX10_init_37 : decode cX10_init 37 = .ok (.aload_n 0, 1) := by decide +kernel
theorem dX10_init_38 : decode cX10_init 38 = .ok (.new 30, 3) := by decide +kernel
theorem dX10_init_41 : decode cX10_init 41 = .ok (.dup, 1) := by decide +kernel
theorem dX10_init_42 : decode cX10_init 42 = .ok (.bipush 48, 2) := by decide +kernel
theorem dX10_init_44 : decode cX10_init 44 = .ok (.invokespecial 34, 3) := by decide +kernel
theorem dX10_init_47 : decode cX10_init 47 = .ok (.putfield 37, 3) := by decide +kernel
theorem dX10_init_50 : decode cX10_init 50 = .ok (.aload_n 0, 1) := by decide +kernel
theorem dX10_init_51 : decode cX10_init 51 = .ok (.new 30, 3) := by decide +kernel
theorem dX10_init_54 : decode cX10_init 54 = .ok (.dup, 1) := by decide +kernel
theorem dX10_init_55 : decode cX10_init 55 = .ok (.bipush 24, 2) := by decide +kernel
theorem dX10_init_57 : decode cX10_init 57 = .ok (.invokespecial 34, 3) := by decide +kernel
theorem dX10_init_60 : decode cX10_init 60 = .ok (.putfield 41, 3) := by decide +kernel
theorem dX10_init_63 : decode cX10_init 63 = .ok (.aload_n 0, 1) := by decide +kernel
theorem dX10_init_64 : decode cX10_init 64 = .ok (.bipush 8, 2) := by decide +kernel
theorem dX10_init_66 : decode cX10_init 66 = .ok (.anewarray 44, 3) := by decide +kernel
theorem dX10_init_69 : decode cX10_init 69 = .ok (.putfield 46, 3) := by decide +kernel
theorem dX10_init_72 : decode cX10_init 72 = .ok (.aload_n 0, 1) := by decide +kernel
theorem dX10_init_73 : decode cX10_init 73 = .ok (.iconst 0, 1) := by decide +kernel
theorem dX10_init_74 : decode cX10_init 74 = .ok (.putfield 50, 3) := by decide +kernel
theorem dX10_init_77 : decode cX10_init 77 = .ok (.aload_n 0, 1) := by decide +kernel
theorem dX10_init_78 : decode cX10_init 78 = .ok (.iconst 0, 1) := by decide +kernel
theorem dX10_init_79 : decode cX10_init 79 = .ok (.putfield 54, 3) := by decide +kernel
theorem dX10_init_82 : decode cX10_init 82 = .ok (.iconst 0, 1) := by decide +kernel
theorem dX10_init_83 : decode cX10_init 83 = .ok (.istore_n 1, 1) := by decide +kernel
theorem dX10_init_84 : decode cX10_init 84 = .ok (.iload_n 1, 1) := by decide +kernel
theorem dX10_init_85 : decode cX10_init 85 = .ok (.bipush 8, 2) := by decide +kernel
theorem dX10_init_87 : decode cX10_init 87 = .ok (.if_icmp .ge 22, 3) := by decide +kernel
theorem dX10_init_90 : decode cX10_init 90 = .ok (.aload_n 0, 1) := by decide +kernel
theorem dX10_init_91 : decode cX10_init 91 = .ok (.getfield 46, 3) := by decide +kernel
theorem dX10_init_94 : decode cX10_init 94 = .ok (.iload_n 1, 1) := by decide +kernel
theorem dX10_init_95 : decode cX10_init 95 = .ok (.new 44, 3) := by decide +kernel
theorem dX10_init_98 : decode cX10_init 98 = .ok (.dup, 1) := by decide +kernel
theorem dX10_init_99 : decode cX10_init 99 = .ok (.invokespecial 57, 3) := by decide +kernel
theorem dX10_init_102 : decode cX10_init 102 = .ok (.aastore, 1) := by decide +kernel
theorem dX10_init_103 : decode cX10_init 103 = .ok (.iinc 1 1, 3) := by decide +kernel
theorem dX10_init_106 : decode cX10_init 106 = .ok (.goto (-22), 3) := by decide +kernel
theorem dX10_init_109 : decode cX10_init 109 = .ok (.return_, 1) := by decide +kernel
end
section
set_option maxRecDepth 400000 in
def B_c_X10_init (G : va_G) (cy : Nat → ClassId) (sk : Nat → Nat) (A : Nat → Prop) (h0 : Nat) (H : Heap) : Prop := ∃ (st : Nat) (oc : Nat) (ki : Nat) (ce : Nat) (si : Nat) (sp : Nat) (la : Nat) (ld : Nat) (sr : Nat) (tx : Nat) (vl : Nat) (f0 : Nat) (c0 : Nat) (k0 : Nat) (f1 : Nat) (c1 : Nat) (k1 : Nat) (f2 : Nat) (c2 : Nat) (k2 : Nat) (le : Nat) (te : Nat) (ne : Nat) (mi : Nat) (tr : Nat) (be : Nat) (rta7 : Nat) (rba7 : Nat) (ta : Nat) (rta : Nat) (wa : Nat) (rwa : Nat) (wk : Nat) (w0 : Nat) (wy0 : Nat) (wn0 : Nat) (w1 : Nat) (wy1 : Nat) (wn1 : Nat) (w2 : Nat) (wy2 : Nat) (wn2 : Nat) (w3 : Nat) (wy3 : Nat) (wn3 : Nat) (w4 : Nat) (wy4 : Nat) (wn4 : Nat) (w5 : Nat) (wy5 : Nat) (wn5 : Nat) (w6 : Nat) (wy6 : Nat) (wn6 : Nat) (w7 : Nat) (wy7 : Nat) (wn7 : Nat) (foc : Nat → Int32) (fl : Nat → Int32) (gt : Nat → Option Nat) (gw : Nat → Option Nat), (gt 0 = some f0) ∧ (gt 1 = some f1) ∧ (gt 2 = some f2) ∧ (gw 0 = some w0) ∧ (gw 1 = some w1) ∧ (gw 2 = some w2) ∧ (gw 3 = some w3) ∧ (gw 4 = some w4) ∧ (gw 5 = some w5) ∧ (gw 6 = some w6) ∧ (gw 7 = some w7) ∧ (∀ j, j < 192 → foc j = (-1)) ∧ (∀ j, j < 5 → fl j = 50) ∧ va_P G classes [(h0, .inr (10, [.ref st, .ref la, .ref le, .ref ta, .ref wa, .ref wk, .int 0, .int 0])), (st, .inr (7, [.ref oc, .ref ki, .ref ce, .ref si, .ref sp, .int 0])), (oc, .inl (cy 0, 192, .inl foc)), (ki, .inl (cy 0, 40, .inl (fun _ => 0))), (ce, .inl (cy 0, 40, .inl (fun _ => 0))), (si, .inl (cy 0, 40, .inl (fun _ => 0))), (sp, .inl (cy 0, 40, .inl (fun _ => 0))), (la, .inr (2, [.int 5, .int 9, .int 0, .ref ld, .ref sr, .ref tx, .ref vl])), (ld, .inl (cy 0, 5, .inl fl)), (sr, .inl (cy 0, 5, .inl (fun _ => 0))), (tx, .inl (cy 3, 3, .inr (.inr (.inr (.inr gt))))), (vl, .inl (cy 0, 5, .inl (fun _ => 0))), (f0, .inr (1, [.ref c0, .ref k0, .int 0])), (c0, .inl (cy 0, 48, .inl (fun _ => 0))), (k0, .inl (cy 0, 48, .inl (fun _ => 0))), (f1, .inr (1, [.ref c1, .ref k1, .int 0])), (c1, .inl (cy 0, 48, .inl (fun _ => 0))), (k1, .inl (cy 0, 48, .inl (fun _ => 0))), (f2, .inr (1, [.ref c2, .ref k2, .int 0])), (c2, .inl (cy 0, 48, .inl (fun _ => 0))), (k2, .inl (cy 0, 48, .inl (fun _ => 0))), (le, .inr (3, [.ref te, .ref ne, .ref mi, .int 0, .ref tr, .ref be, .int 0, .int 0, .int 0])), (te, .inl (cy 0, 7, .inl (fun _ => 0))), (ne, .inl (cy 0, 7, .inl (fun _ => 0))), (mi, .inl (cy 0, 7, .inl (fun _ => 0))), (tr, .inr (5, [.ref rta7, .int 0])), (rta7, .inl (cy 0, 7, .inl (fun _ => 0))), (be, .inr (5, [.ref rba7, .int 0])), (rba7, .inl (cy 0, 7, .inl (fun _ => 0))), (ta, .inr (5, [.ref rta, .int 0])), (rta, .inl (cy 0, 48, .inl (fun _ => 0))), (wa, .inr (5, [.ref rwa, .int 0])), (rwa, .inl (cy 0, 24, .inl (fun _ => 0))), (wk, .inl (cy 4, 8, .inr (.inr (.inr (.inr gw))))), (w0, .inr (9, [.int 0, .int 0, .int 0, .int 5, .int 60, .int 0, .int 0, .int 0, .int 0, .ref wy0, .ref wn0])), (wy0, .inl (cy 0, 192, .inl (fun _ => 0))), (wn0, .inl (cy 0, 192, .inl (fun _ => 0))), (w1, .inr (9, [.int 0, .int 0, .int 0, .int 5, .int 60, .int 0, .int 0, .int 0, .int 0, .ref wy1, .ref wn1])), (wy1, .inl (cy 0, 192, .inl (fun _ => 0))), (wn1, .inl (cy 0, 192, .inl (fun _ => 0))), (w2, .inr (9, [.int 0, .int 0, .int 0, .int 5, .int 60, .int 0, .int 0, .int 0, .int 0, .ref wy2, .ref wn2])), (wy2, .inl (cy 0, 192, .inl (fun _ => 0))), (wn2, .inl (cy 0, 192, .inl (fun _ => 0))), (w3, .inr (9, [.int 0, .int 0, .int 0, .int 5, .int 60, .int 0, .int 0, .int 0, .int 0, .ref wy3, .ref wn3])), (wy3, .inl (cy 0, 192, .inl (fun _ => 0))), (wn3, .inl (cy 0, 192, .inl (fun _ => 0))), (w4, .inr (9, [.int 0, .int 0, .int 0, .int 5, .int 60, .int 0, .int 0, .int 0, .int 0, .ref wy4, .ref wn4])), (wy4, .inl (cy 0, 192, .inl (fun _ => 0))), (wn4, .inl (cy 0, 192, .inl (fun _ => 0))), (w5, .inr (9, [.int 0, .int 0, .int 0, .int 5, .int 60, .int 0, .int 0, .int 0, .int 0, .ref wy5, .ref wn5])), (wy5, .inl (cy 0, 192, .inl (fun _ => 0))), (wn5, .inl (cy 0, 192, .inl (fun _ => 0))), (w6, .inr (9, [.int 0, .int 0, .int 0, .int 5, .int 60, .int 0, .int 0, .int 0, .int 0, .ref wy6, .ref wn6])), (wy6, .inl (cy 0, 192, .inl (fun _ => 0))), (wn6, .inl (cy 0, 192, .inl (fun _ => 0))), (w7, .inr (9, [.int 0, .int 0, .int 0, .int 5, .int 60, .int 0, .int 0, .int 0, .int 0, .ref wy7, .ref wn7])), (wy7, .inl (cy 0, 192, .inl (fun _ => 0))), (wn7, .inl (cy 0, 192, .inl (fun _ => 0)))] H ∧ va_D A [(h0, .inr (10, [.ref st, .ref la, .ref le, .ref ta, .ref wa, .ref wk, .int 0, .int 0])), (st, .inr (7, [.ref oc, .ref ki, .ref ce, .ref si, .ref sp, .int 0])), (oc, .inl (cy 0, 192, .inl foc)), (ki, .inl (cy 0, 40, .inl (fun _ => 0))), (ce, .inl (cy 0, 40, .inl (fun _ => 0))), (si, .inl (cy 0, 40, .inl (fun _ => 0))), (sp, .inl (cy 0, 40, .inl (fun _ => 0))), (la, .inr (2, [.int 5, .int 9, .int 0, .ref ld, .ref sr, .ref tx, .ref vl])), (ld, .inl (cy 0, 5, .inl fl)), (sr, .inl (cy 0, 5, .inl (fun _ => 0))), (tx, .inl (cy 3, 3, .inr (.inr (.inr (.inr gt))))), (vl, .inl (cy 0, 5, .inl (fun _ => 0))), (f0, .inr (1, [.ref c0, .ref k0, .int 0])), (c0, .inl (cy 0, 48, .inl (fun _ => 0))), (k0, .inl (cy 0, 48, .inl (fun _ => 0))), (f1, .inr (1, [.ref c1, .ref k1, .int 0])), (c1, .inl (cy 0, 48, .inl (fun _ => 0))), (k1, .inl (cy 0, 48, .inl (fun _ => 0))), (f2, .inr (1, [.ref c2, .ref k2, .int 0])), (c2, .inl (cy 0, 48, .inl (fun _ => 0))), (k2, .inl (cy 0, 48, .inl (fun _ => 0))), (le, .inr (3, [.ref te, .ref ne, .ref mi, .int 0, .ref tr, .ref be, .int 0, .int 0, .int 0])), (te, .inl (cy 0, 7, .inl (fun _ => 0))), (ne, .inl (cy 0, 7, .inl (fun _ => 0))), (mi, .inl (cy 0, 7, .inl (fun _ => 0))), (tr, .inr (5, [.ref rta7, .int 0])), (rta7, .inl (cy 0, 7, .inl (fun _ => 0))), (be, .inr (5, [.ref rba7, .int 0])), (rba7, .inl (cy 0, 7, .inl (fun _ => 0))), (ta, .inr (5, [.ref rta, .int 0])), (rta, .inl (cy 0, 48, .inl (fun _ => 0))), (wa, .inr (5, [.ref rwa, .int 0])), (rwa, .inl (cy 0, 24, .inl (fun _ => 0))), (wk, .inl (cy 4, 8, .inr (.inr (.inr (.inr gw))))), (w0, .inr (9, [.int 0, .int 0, .int 0, .int 5, .int 60, .int 0, .int 0, .int 0, .int 0, .ref wy0, .ref wn0])), (wy0, .inl (cy 0, 192, .inl (fun _ => 0))), (wn0, .inl (cy 0, 192, .inl (fun _ => 0))), (w1, .inr (9, [.int 0, .int 0, .int 0, .int 5, .int 60, .int 0, .int 0, .int 0, .int 0, .ref wy1, .ref wn1])), (wy1, .inl (cy 0, 192, .inl (fun _ => 0))), (wn1, .inl (cy 0, 192, .inl (fun _ => 0))), (w2, .inr (9, [.int 0, .int 0, .int 0, .int 5, .int 60, .int 0, .int 0, .int 0, .int 0, .ref wy2, .ref wn2])), (wy2, .inl (cy 0, 192, .inl (fun _ => 0))), (wn2, .inl (cy 0, 192, .inl (fun _ => 0))), (w3, .inr (9, [.int 0, .int 0, .int 0, .int 5, .int 60, .int 0, .int 0, .int 0, .int 0, .ref wy3, .ref wn3])), (wy3, .inl (cy 0, 192, .inl (fun _ => 0))), (wn3, .inl (cy 0, 192, .inl (fun _ => 0))), (w4, .inr (9, [.int 0, .int 0, .int 0, .int 5, .int 60, .int 0, .int 0, .int 0, .int 0, .ref wy4, .ref wn4])), (wy4, .inl (cy 0, 192, .inl (fun _ => 0))), (wn4, .inl (cy 0, 192, .inl (fun _ => 0))), (w5, .inr (9, [.int 0, .int 0, .int 0, .int 5, .int 60, .int 0, .int 0, .int 0, .int 0, .ref wy5, .ref wn5])), (wy5, .inl (cy 0, 192, .inl (fun _ => 0))), (wn5, .inl (cy 0, 192, .inl (fun _ => 0))), (w6, .inr (9, [.int 0, .int 0, .int 0, .int 5, .int 60, .int 0, .int 0, .int 0, .int 0, .ref wy6, .ref wn6])), (wy6, .inl (cy 0, 192, .inl (fun _ => 0))), (wn6, .inl (cy 0, 192, .inl (fun _ => 0))), (w7, .inr (9, [.int 0, .int 0, .int 0, .int 5, .int 60, .int 0, .int 0, .int 0, .int 0, .ref wy7, .ref wn7])), (wy7, .inl (cy 0, 192, .inl (fun _ => 0))), (wn7, .inl (cy 0, 192, .inl (fun _ => 0)))]
set_option maxRecDepth 400000 in
theorem exE_c_X10_init {P : (Nat) → (Nat) → (Nat) → (Nat) → (Nat) → (Nat) → (Nat) → (Nat) → (Nat) → (Nat) → (Nat) → (Nat) → (Nat) → (Nat) → (Nat) → (Nat) → (Nat) → (Nat) → (Nat) → (Nat) → (Nat) → (Nat) → (Nat) → (Nat) → (Nat) → (Nat) → (Nat) → (Nat) → (Nat) → (Nat) → (Nat) → (Nat) → (Nat) → (Nat) → (Nat) → (Nat) → (Nat) → (Nat) → (Nat) → (Nat) → (Nat) → (Nat) → (Nat) → (Nat) → (Nat) → (Nat) → (Nat) → (Nat) → (Nat) → (Nat) → (Nat) → (Nat) → (Nat) → (Nat) → (Nat) → (Nat) → (Nat) → (Nat → Int32) → (Nat → Int32) → (Nat → Option Nat) → (Nat → Option Nat) → Prop} {Q : Prop} (h : ∃ (x0 : Nat) (x1 : Nat) (x2 : Nat) (x3 : Nat) (x4 : Nat) (x5 : Nat) (x6 : Nat) (x7 : Nat) (x8 : Nat) (x9 : Nat) (x10 : Nat) (x11 : Nat) (x12 : Nat) (x13 : Nat) (x14 : Nat) (x15 : Nat) (x16 : Nat) (x17 : Nat) (x18 : Nat) (x19 : Nat) (x20 : Nat) (x21 : Nat) (x22 : Nat) (x23 : Nat) (x24 : Nat) (x25 : Nat) (x26 : Nat) (x27 : Nat) (x28 : Nat) (x29 : Nat) (x30 : Nat) (x31 : Nat) (x32 : Nat) (x33 : Nat) (x34 : Nat) (x35 : Nat) (x36 : Nat) (x37 : Nat) (x38 : Nat) (x39 : Nat) (x40 : Nat) (x41 : Nat) (x42 : Nat) (x43 : Nat) (x44 : Nat) (x45 : Nat) (x46 : Nat) (x47 : Nat) (x48 : Nat) (x49 : Nat) (x50 : Nat) (x51 : Nat) (x52 : Nat) (x53 : Nat) (x54 : Nat) (x55 : Nat) (x56 : Nat) (x57 : Nat → Int32) (x58 : Nat → Int32) (x59 : Nat → Option Nat) (x60 : Nat → Option Nat), P x0 x1 x2 x3 x4 x5 x6 x7 x8 x9 x10 x11 x12 x13 x14 x15 x16 x17 x18 x19 x20 x21 x22 x23 x24 x25 x26 x27 x28 x29 x30 x31 x32 x33 x34 x35 x36 x37 x38 x39 x40 x41 x42 x43 x44 x45 x46 x47 x48 x49 x50 x51 x52 x53 x54 x55 x56 x57 x58 x59 x60) (k : ∀ (x0 : Nat) (x1 : Nat) (x2 : Nat) (x3 : Nat) (x4 : Nat) (x5 : Nat) (x6 : Nat) (x7 : Nat) (x8 : Nat) (x9 : Nat) (x10 : Nat) (x11 : Nat) (x12 : Nat) (x13 : Nat) (x14 : Nat) (x15 : Nat) (x16 : Nat) (x17 : Nat) (x18 : Nat) (x19 : Nat) (x20 : Nat) (x21 : Nat) (x22 : Nat) (x23 : Nat) (x24 : Nat) (x25 : Nat) (x26 : Nat) (x27 : Nat) (x28 : Nat) (x29 : Nat) (x30 : Nat) (x31 : Nat) (x32 : Nat) (x33 : Nat) (x34 : Nat) (x35 : Nat) (x36 : Nat) (x37 : Nat) (x38 : Nat) (x39 : Nat) (x40 : Nat) (x41 : Nat) (x42 : Nat) (x43 : Nat) (x44 : Nat) (x45 : Nat) (x46 : Nat) (x47 : Nat) (x48 : Nat) (x49 : Nat) (x50 : Nat) (x51 : Nat) (x52 : Nat) (x53 : Nat) (x54 : Nat) (x55 : Nat) (x56 : Nat) (x57 : Nat → Int32) (x58 : Nat → Int32) (x59 : Nat → Option Nat) (x60 : Nat → Option Nat), P x0 x1 x2 x3 x4 x5 x6 x7 x8 x9 x10 x11 x12 x13 x14 x15 x16 x17 x18 x19 x20 x21 x22 x23 x24 x25 x26 x27 x28 x29 x30 x31 x32 x33 x34 x35 x36 x37 x38 x39 x40 x41 x42 x43 x44 x45 x46 x47 x48 x49 x50 x51 x52 x53 x54 x55 x56 x57 x58 x59 x60 → Q) : Q := Exists.elim h fun x0 h => Exists.elim h fun x1 h => Exists.elim h fun x2 h => Exists.elim h fun x3 h => Exists.elim h fun x4 h => Exists.elim h fun x5 h => Exists.elim h fun x6 h => Exists.elim h fun x7 h => Exists.elim h fun x8 h => Exists.elim h fun x9 h => Exists.elim h fun x10 h => Exists.elim h fun x11 h => Exists.elim h fun x12 h => Exists.elim h fun x13 h => Exists.elim h fun x14 h => Exists.elim h fun x15 h => Exists.elim h fun x16 h => Exists.elim h fun x17 h => Exists.elim h fun x18 h => Exists.elim h fun x19 h => Exists.elim h fun x20 h => Exists.elim h fun x21 h => Exists.elim h fun x22 h => Exists.elim h fun x23 h => Exists.elim h fun x24 h => Exists.elim h fun x25 h => Exists.elim h fun x26 h => Exists.elim h fun x27 h => Exists.elim h fun x28 h => Exists.elim h fun x29 h => Exists.elim h fun x30 h => Exists.elim h fun x31 h => Exists.elim h fun x32 h => Exists.elim h fun x33 h => Exists.elim h fun x34 h => Exists.elim h fun x35 h => Exists.elim h fun x36 h => Exists.elim h fun x37 h => Exists.elim h fun x38 h => Exists.elim h fun x39 h => Exists.elim h fun x40 h => Exists.elim h fun x41 h => Exists.elim h fun x42 h => Exists.elim h fun x43 h => Exists.elim h fun x44 h => Exists.elim h fun x45 h => Exists.elim h fun x46 h => Exists.elim h fun x47 h => Exists.elim h fun x48 h => Exists.elim h fun x49 h => Exists.elim h fun x50 h => Exists.elim h fun x51 h => Exists.elim h fun x52 h => Exists.elim h fun x53 h => Exists.elim h fun x54 h => Exists.elim h fun x55 h => Exists.elim h fun x56 h => Exists.elim h fun x57 h => Exists.elim h fun x58 h => Exists.elim h fun x59 h => Exists.elim h fun x60 h => k x0 x1 x2 x3 x4 x5 x6 x7 x8 x9 x10 x11 x12 x13 x14 x15 x16 x17 x18 x19 x20 x21 x22 x23 x24 x25 x26 x27 x28 x29 x30 x31 x32 x33 x34 x35 x36 x37 x38 x39 x40 x41 x42 x43 x44 x45 x46 x47 x48 x49 x50 x51 x52 x53 x54 x55 x56 x57 x58 x59 x60 h
set_option maxHeartbeats 4000000 in
set_option maxRecDepth 100000 in
theorem c_X10_init (l : Launch) (G : va_G) (cy : Nat → ClassId) (sk : Nat → Nat) (sz : Nat) (h0 : Nat)  : Met l yX10_init (wsO yX10_init cX10_init 2 none) ({ frames := 3, cells := 57, slots := 4286, locals := 55 }) (va_Pc [.ref h0] (PR G cy sk sz [(h0, .inr (10, [.null, .null, .null, .null, .null, .null, .int 0, .int 0]))])) (va_Qv (fun (_ : Unit) => True) (fun _ t => B_c_X10_init G cy sk (va_A [(h0, .inr (10, [.null, .null, .null, .null, .null, .null, .int 0, .int 0]))] sz) h0 t.heap) (va_A [(h0, .inr (10, [.null, .null, .null, .null, .null, .null, .int 0, .int 0]))] sz)) 57 4286 (va_A [(h0, .inr (10, [.null, .null, .null, .null, .null, .null, .int 0, .int 0]))] sz) := by
  refine mt (by decide) (Nat.le_of_ble_eq_true rfl) ?_
  intro p e s m below meth c ls hx hb hr hml hts hown hlocks hin hsz hP hE hD hl
  subst hsz
  have hl : lv_has ls 2 [(0, .ref h0)] := hl
  have hD := hD.self (sz := s.heap.size)
  generalize hAe : va_A [(h0, .inr (10, [.null, .null, .null, .null, .null, .null, .int 0, .int 0]))] s.heap.size = A at hD ⊢
  have hA : ∀ q : Nat, s.heap.size ≤ q → A q := fun q h => by rw [← hAe]; exact Or.inr h
  have hS : va_S A s.heap s.heap [] := va_S.rf
  refine lv_aload_n hx hb dX10_init_0 rfl (lv_at hl 0 rfl) ?_
  refine W.objInit hx hb hown (hts _ m_114) (hts _ m_107) (hts _ m_108) rfl (by rw [hml]; exact hl.1) rfl dX10_init_1 (Nat.le_of_ble_eq_true rfl) (Nat.le_of_ble_eq_true rfl) ?_
  refine W.eq (g2 := F0 m 4 ls []) rfl ?_
  refine lv_aload_n hx hb dX10_init_4 rfl (lv_at hl 0 rfl) ?_
  refine va_new (ci := 7) (fs := [.null, .null, .null, .null, .null, .int 0]) (C := RX7) (T := TX7) (N := 6) hx hb hts inB7 tyX7 tyX7_ok hown (hts _ m_115) (hts _ m_116) (hts _ m_81) hE.1 hP hD hS hA rfl df7 (Nat.le_of_ble_eq_true rfl) (Nat.le_of_ble_eq_true rfl) dX10_init_5 (fun nq1 H hP hD hS => ?_)
  have hP : va_P G classes [(h0, .inr (10, [.null, .null, .null, .null, .null, .null, .int 0, .int 0])), (nq1, .inr (7, [.null, .null, .null, .null, .null, .int 0]))] H := hP
  refine lv_dup hx hb dX10_init_8 rfl ?_
  refine wI (B := (B_c_X7_init G cy sk (va_A [(nq1, .inr (7, [.null, .null, .null, .null, .null, .int 0]))] H.size) nq1)) (wr := [(h0, .inr (10, [.null, .null, .null, .null, .null, .null, .int 0, .int 0]))]) (rest := [.ref nq1, .ref h0]) hx hb hml hown hts hE (c_X7_init l G cy sk H.size nq1) kI_X7_init m_117 rfl rfl ⟨(Nat.le_of_ble_eq_true rfl), (Nat.le_of_ble_eq_true rfl)⟩ hP hD hS hA [1] [0] rfl rfl rfl rfl (by decide) rfl rfl hl.1 (Nat.le_of_ble_eq_true rfl) dX10_init_9 ⟨(Nat.le_of_ble_eq_true rfl), (Nat.le_of_ble_eq_true rfl)⟩ (fun H locs haf hS => ?_)
  obtain ⟨xq3, xq4, xq5, xq6, xq7, xf8, h_9, hP1, hD1⟩ := haf.1
  obtain ⟨hP, hD⟩ := haf.2.1 _ hP1 hD1
  have hP : va_P G classes [(h0, .inr (10, [.null, .null, .null, .null, .null, .null, .int 0, .int 0])), (nq1, .inr (7, [.ref xq3, .ref xq4, .ref xq5, .ref xq6, .ref xq7, .int 0])), (xq3, .inl (cy 0, 192, .inl xf8)), (xq4, .inl (cy 0, 40, .inl (fun _ => 0))), (xq5, .inl (cy 0, 40, .inl (fun _ => 0))), (xq6, .inl (cy 0, 40, .inl (fun _ => 0))), (xq7, .inl (cy 0, 40, .inl (fun _ => 0)))] H := hP
  refine va_putF (D := G) (ci := 10) (v := .ref nq1) (ty := (.object "ClickStreet$Street")) (C := RX10) (T := TX10) (N := 8) hx hb hts inB10 tyX10 tyX10_ok nmX10 hown hE.1 hP hD hS 0 rfl rfl 0 (by decide) (hts _ m_309) (fun _ h9 => h9) rfl hin rfl (by decide +kernel) rfl rfl (Nat.le_of_ble_eq_true rfl) dX10_init_12 (fun H locs hP hD hS => ?_)
  have hP : va_P G classes [(h0, .inr (10, [.ref nq1, .null, .null, .null, .null, .null, .int 0, .int 0])), (nq1, .inr (7, [.ref xq3, .ref xq4, .ref xq5, .ref xq6, .ref xq7, .int 0])), (xq3, .inl (cy 0, 192, .inl xf8)), (xq4, .inl (cy 0, 40, .inl (fun _ => 0))), (xq5, .inl (cy 0, 40, .inl (fun _ => 0))), (xq6, .inl (cy 0, 40, .inl (fun _ => 0))), (xq7, .inl (cy 0, 40, .inl (fun _ => 0)))] H := hP
  refine lv_aload_n hx hb dX10_init_15 rfl (lv_at hl 0 rfl) ?_
  refine va_new (ci := 2) (fs := [.int 0, .int 0, .int 0, .null, .null, .null, .null]) (C := RX2) (T := TX2) (N := 7) hx hb hts inB2 tyX2 tyX2_ok hown (hts _ m_147) (hts _ m_148) (hts _ m_82) hE.1 hP hD hS hA rfl df2 (Nat.le_of_ble_eq_true rfl) (Nat.le_of_ble_eq_true rfl) dX10_init_16 (fun nq10 H hP hD hS => ?_)
  have hP : va_P G classes [(h0, .inr (10, [.ref nq1, .null, .null, .null, .null, .null, .int 0, .int 0])), (nq1, .inr (7, [.ref xq3, .ref xq4, .ref xq5, .ref xq6, .ref xq7, .int 0])), (xq3, .inl (cy 0, 192, .inl xf8)), (xq4, .inl (cy 0, 40, .inl (fun _ => 0))), (xq5, .inl (cy 0, 40, .inl (fun _ => 0))), (xq6, .inl (cy 0, 40, .inl (fun _ => 0))), (xq7, .inl (cy 0, 40, .inl (fun _ => 0))), (nq10, .inr (2, [.int 0, .int 0, .int 0, .null, .null, .null, .null]))] H := hP
  refine lv_dup hx hb dX10_init_19 rfl ?_
  refine wI (B := (B_c_X2_init G cy sk (va_A [(nq10, .inr (2, [.int 0, .int 0, .int 0, .null, .null, .null, .null]))] H.size) nq10)) (wr := [(h0, .inr (10, [.ref nq1, .null, .null, .null, .null, .null, .int 0, .int 0])), (nq1, .inr (7, [.ref xq3, .ref xq4, .ref xq5, .ref xq6, .ref xq7, .int 0])), (xq3, .inl (cy 0, 192, .inl xf8)), (xq4, .inl (cy 0, 40, .inl (fun _ => 0))), (xq5, .inl (cy 0, 40, .inl (fun _ => 0))), (xq6, .inl (cy 0, 40, .inl (fun _ => 0))), (xq7, .inl (cy 0, 40, .inl (fun _ => 0)))]) (rest := [.ref nq10, .ref h0]) hx hb hml hown hts hE (c_X2_init l G cy sk H.size nq10) kI_X2_init m_149 rfl rfl ⟨(Nat.le_of_ble_eq_true rfl), (Nat.le_of_ble_eq_true rfl)⟩ hP hD hS hA [7] [0, 1, 2, 3, 4, 5, 6] rfl rfl rfl rfl (by decide) rfl rfl hl.1 (Nat.le_of_ble_eq_true rfl) dX10_init_20 ⟨(Nat.le_of_ble_eq_true rfl), (Nat.le_of_ble_eq_true rfl)⟩ (fun H locs haf hS => ?_)
  obtain ⟨xq12, xq13, xq14, xq15, xq16, xq17, xq18, xq19, xq20, xq21, xq22, xq23, xq24, xf25, xg26, h_27, h_28, h_29, h_30, hP1, hD1⟩ := haf.1
  obtain ⟨hP, hD⟩ := haf.2.1 _ hP1 hD1
  have hP : va_P G classes [(h0, .inr (10, [.ref nq1, .null, .null, .null, .null, .null, .int 0, .int 0])), (nq1, .inr (7, [.ref xq3, .ref xq4, .ref xq5, .ref xq6, .ref xq7, .int 0])), (xq3, .inl (cy 0, 192, .inl xf8)), (xq4, .inl (cy 0, 40, .inl (fun _ => 0))), (xq5, .inl (cy 0, 40, .inl (fun _ => 0))), (xq6, .inl (cy 0, 40, .inl (fun _ => 0))), (xq7, .inl (cy 0, 40, .inl (fun _ => 0))), (nq10, .inr (2, [.int 5, .int 9, .int 0, .ref xq12, .ref xq13, .ref xq14, .ref xq15])), (xq12, .inl (cy 0, 5, .inl xf25)), (xq13, .inl (cy 0, 5, .inl (fun _ => 0))), (xq14, .inl (cy 3, 3, .inr (.inr (.inr (.inr xg26))))), (xq15, .inl (cy 0, 5, .inl (fun _ => 0))), (xq16, .inr (1, [.ref xq17, .ref xq18, .int 0])), (xq17, .inl (cy 0, 48, .inl (fun _ => 0))), (xq18, .inl (cy 0, 48, .inl (fun _ => 0))), (xq19, .inr (1, [.ref xq20, .ref xq21, .int 0])), (xq20, .inl (cy 0, 48, .inl (fun _ => 0))), (xq21, .inl (cy 0, 48, .inl (fun _ => 0))), (xq22, .inr (1, [.ref xq23, .ref xq24, .int 0])), (xq23, .inl (cy 0, 48, .inl (fun _ => 0))), (xq24, .inl (cy 0, 48, .inl (fun _ => 0)))] H := hP
  refine va_putF (D := G) (ci := 10) (v := .ref nq10) (ty := (.object "ClickStreet$Laws")) (C := RX10) (T := TX10) (N := 8) hx hb hts inB10 tyX10 tyX10_ok nmX10 hown hE.1 hP hD hS 0 rfl rfl 1 (by decide) (hts _ m_312) (fun _ h9 => h9) rfl hin rfl (by decide +kernel) rfl rfl (Nat.le_of_ble_eq_true rfl) dX10_init_23 (fun H locs hP hD hS => ?_)
  have hP : va_P G classes [(h0, .inr (10, [.ref nq1, .ref nq10, .null, .null, .null, .null, .int 0, .int 0])), (nq1, .inr (7, [.ref xq3, .ref xq4, .ref xq5, .ref xq6, .ref xq7, .int 0])), (xq3, .inl (cy 0, 192, .inl xf8)), (xq4, .inl (cy 0, 40, .inl (fun _ => 0))), (xq5, .inl (cy 0, 40, .inl (fun _ => 0))), (xq6, .inl (cy 0, 40, .inl (fun _ => 0))), (xq7, .inl (cy 0, 40, .inl (fun _ => 0))), (nq10, .inr (2, [.int 5, .int 9, .int 0, .ref xq12, .ref xq13, .ref xq14, .ref xq15])), (xq12, .inl (cy 0, 5, .inl xf25)), (xq13, .inl (cy 0, 5, .inl (fun _ => 0))), (xq14, .inl (cy 3, 3, .inr (.inr (.inr (.inr xg26))))), (xq15, .inl (cy 0, 5, .inl (fun _ => 0))), (xq16, .inr (1, [.ref xq17, .ref xq18, .int 0])), (xq17, .inl (cy 0, 48, .inl (fun _ => 0))), (xq18, .inl (cy 0, 48, .inl (fun _ => 0))), (xq19, .inr (1, [.ref xq20, .ref xq21, .int 0])), (xq20, .inl (cy 0, 48, .inl (fun _ => 0))), (xq21, .inl (cy 0, 48, .inl (fun _ => 0))), (xq22, .inr (1, [.ref xq23, .ref xq24, .int 0])), (xq23, .inl (cy 0, 48, .inl (fun _ => 0))), (xq24, .inl (cy 0, 48, .inl (fun _ => 0)))] H := hP
  refine lv_aload_n hx hb dX10_init_26 rfl (lv_at hl 0 rfl) ?_
  refine va_new (ci := 3) (fs := [.null, .null, .null, .int 0, .null, .null, .int 0, .int 0, .int 0]) (C := RX3) (T := TX3) (N := 9) hx hb hts inB3 tyX3 tyX3_ok hown (hts _ m_193) (hts _ m_194) (hts _ m_84) hE.1 hP hD hS hA rfl df3 (Nat.le_of_ble_eq_true rfl) (Nat.le_of_ble_eq_true rfl) dX10_init_27 (fun nq31 H hP hD hS => ?_)
  have hP : va_P G classes [(h0, .inr (10, [.ref nq1, .ref nq10, .null, .null, .null, .null, .int 0, .int 0])), (nq1, .inr (7, [.ref xq3, .ref xq4, .ref xq5, .ref xq6, .ref xq7, .int 0])), (xq3, .inl (cy 0, 192, .inl xf8)), (xq4, .inl (cy 0, 40, .inl (fun _ => 0))), (xq5, .inl (cy 0, 40, .inl (fun _ => 0))), (xq6, .inl (cy 0, 40, .inl (fun _ => 0))), (xq7, .inl (cy 0, 40, .inl (fun _ => 0))), (nq10, .inr (2, [.int 5, .int 9, .int 0, .ref xq12, .ref xq13, .ref xq14, .ref xq15])), (xq12, .inl (cy 0, 5, .inl xf25)), (xq13, .inl (cy 0, 5, .inl (fun _ => 0))), (xq14, .inl (cy 3, 3, .inr (.inr (.inr (.inr xg26))))), (xq15, .inl (cy 0, 5, .inl (fun _ => 0))), (xq16, .inr (1, [.ref xq17, .ref xq18, .int 0])), (xq17, .inl (cy 0, 48, .inl (fun _ => 0))), (xq18, .inl (cy 0, 48, .inl (fun _ => 0))), (xq19, .inr (1, [.ref xq20, .ref xq21, .int 0])), (xq20, .inl (cy 0, 48, .inl (fun _ => 0))), (xq21, .inl (cy 0, 48, .inl (fun _ => 0))), (xq22, .inr (1, [.ref xq23, .ref xq24, .int 0])), (xq23, .inl (cy 0, 48, .inl (fun _ => 0))), (xq24, .inl (cy 0, 48, .inl (fun _ => 0))), (nq31, .inr (3, [.null, .null, .null, .int 0, .null, .null, .int 0, .int 0, .int 0]))] H := hP
  refine lv_dup hx hb dX10_init_30 rfl ?_
  refine wIN (B := (B_c_X3_init G cy sk (va_A [(nq31, .inr (3, [.null, .null, .null, .int 0, .null, .null, .int 0, .int 0, .int 0]))] H.size) nq31)) (wr := [(h0, .inr (10, [.ref nq1, .ref nq10, .null, .null, .null, .null, .int 0, .int 0])), (nq1, .inr (7, [.ref xq3, .ref xq4, .ref xq5, .ref xq6, .ref xq7, .int 0])), (xq3, .inl (cy 0, 192, .inl xf8)), (xq4, .inl (cy 0, 40, .inl (fun _ => 0))), (xq5, .inl (cy 0, 40, .inl (fun _ => 0))), (xq6, .inl (cy 0, 40, .inl (fun _ => 0))), (xq7, .inl (cy 0, 40, .inl (fun _ => 0))), (nq10, .inr (2, [.int 5, .int 9, .int 0, .ref xq12, .ref xq13, .ref xq14, .ref xq15])), (xq12, .inl (cy 0, 5, .inl xf25)), (xq13, .inl (cy 0, 5, .inl (fun _ => 0))), (xq14, .inl (cy 3, 3, .inr (.inr (.inr (.inr xg26))))), (xq15, .inl (cy 0, 5, .inl (fun _ => 0))), (xq16, .inr (1, [.ref xq17, .ref xq18, .int 0])), (xq17, .inl (cy 0, 48, .inl (fun _ => 0))), (xq18, .inl (cy 0, 48, .inl (fun _ => 0))), (xq19, .inr (1, [.ref xq20, .ref xq21, .int 0])), (xq20, .inl (cy 0, 48, .inl (fun _ => 0))), (xq21, .inl (cy 0, 48, .inl (fun _ => 0))), (xq22, .inr (1, [.ref xq23, .ref xq24, .int 0])), (xq23, .inl (cy 0, 48, .inl (fun _ => 0))), (xq24, .inl (cy 0, 48, .inl (fun _ => 0)))]) (rest := [.ref nq31, .ref h0]) (host := "ClickStreet") hx hb hml hown hts hE (c_X3_init l G cy sk H.size nq31) kI_X3_init (by decide +kernel) rfl rfl ⟨(Nat.le_of_ble_eq_true rfl), (Nat.le_of_ble_eq_true rfl)⟩ hP hD hS hA [21] [0, 1, 2, 3, 4, 5, 6, 7, 8, 9, 10, 11, 12, 13, 14, 15, 16, 17, 18, 19, 20] rfl rfl rfl rfl (by decide) rfl rfl hl.1 (Nat.le_of_ble_eq_true rfl) dX10_init_31 ⟨(Nat.le_of_ble_eq_true rfl), (Nat.le_of_ble_eq_true rfl)⟩ (fun H locs haf hS => ?_)
  obtain ⟨xq33, xq34, xq35, xq36, xq37, xq38, xq39, hP1, hD1⟩ := haf.1
  obtain ⟨hP, hD⟩ := haf.2.1 _ hP1 hD1
  have hP : va_P G classes [(h0, .inr (10, [.ref nq1, .ref nq10, .null, .null, .null, .null, .int 0, .int 0])), (nq1, .inr (7, [.ref xq3, .ref xq4, .ref xq5, .ref xq6, .ref xq7, .int 0])), (xq3, .inl (cy 0, 192, .inl xf8)), (xq4, .inl (cy 0, 40, .inl (fun _ => 0))), (xq5, .inl (cy 0, 40, .inl (fun _ => 0))), (xq6, .inl (cy 0, 40, .inl (fun _ => 0))), (xq7, .inl (cy 0, 40, .inl (fun _ => 0))), (nq10, .inr (2, [.int 5, .int 9, .int 0, .ref xq12, .ref xq13, .ref xq14, .ref xq15])), (xq12, .inl (cy 0, 5, .inl xf25)), (xq13, .inl (cy 0, 5, .inl (fun _ => 0))), (xq14, .inl (cy 3, 3, .inr (.inr (.inr (.inr xg26))))), (xq15, .inl (cy 0, 5, .inl (fun _ => 0))), (xq16, .inr (1, [.ref xq17, .ref xq18, .int 0])), (xq17, .inl (cy 0, 48, .inl (fun _ => 0))), (xq18, .inl (cy 0, 48, .inl (fun _ => 0))), (xq19, .inr (1, [.ref xq20, .ref xq21, .int 0])), (xq20, .inl (cy 0, 48, .inl (fun _ => 0))), (xq21, .inl (cy 0, 48, .inl (fun _ => 0))), (xq22, .inr (1, [.ref xq23, .ref xq24, .int 0])), (xq23, .inl (cy 0, 48, .inl (fun _ => 0))), (xq24, .inl (cy 0, 48, .inl (fun _ => 0))), (nq31, .inr (3, [.ref xq33, .ref xq34, .ref xq35, .int 0, .ref xq36, .ref xq37, .int 0, .int 0, .int 0])), (xq33, .inl (cy 0, 7, .inl (fun _ => 0))), (xq34, .inl (cy 0, 7, .inl (fun _ => 0))), (xq35, .inl (cy 0, 7, .inl (fun _ => 0))), (xq36, .inr (5, [.ref xq38, .int 0])), (xq38, .inl (cy 0, 7, .inl (fun _ => 0))), (xq37, .inr (5, [.ref xq39, .int 0])), (xq39, .inl (cy 0, 7, .inl (fun _ => 0)))] H := hP
  refine va_putF (D := G) (ci := 10) (v := .ref nq31) (ty := (.object "ClickStreet$Lessons")) (C := RX10) (T := TX10) (N := 8) hx hb hts inB10 tyX10 tyX10_ok nmX10 hown hE.1 hP hD hS 0 rfl rfl 2 (by decide) (hts _ m_315) (fun _ h9 => h9) rfl hin rfl (by decide +kernel) rfl rfl (Nat.le_of_ble_eq_true rfl) dX10_init_34 (fun H locs hP hD hS => ?_)
  have hP : va_P G classes [(h0, .inr (10, [.ref nq1, .ref nq10, .ref nq31, .null, .null, .null, .int 0, .int 0])), (nq1, .inr (7, [.ref xq3, .ref xq4, .ref xq5, .ref xq6, .ref xq7, .int 0])), (xq3, .inl (cy 0, 192, .inl xf8)), (xq4, .inl (cy 0, 40, .inl (fun _ => 0))), (xq5, .inl (cy 0, 40, .inl (fun _ => 0))), (xq6, .inl (cy 0, 40, .inl (fun _ => 0))), (xq7, .inl (cy 0, 40, .inl (fun _ => 0))), (nq10, .inr (2, [.int 5, .int 9, .int 0, .ref xq12, .ref xq13, .ref xq14, .ref xq15])), (xq12, .inl (cy 0, 5, .inl xf25)), (xq13, .inl (cy 0, 5, .inl (fun _ => 0))), (xq14, .inl (cy 3, 3, .inr (.inr (.inr (.inr xg26))))), (xq15, .inl (cy 0, 5, .inl (fun _ => 0))), (xq16, .inr (1, [.ref xq17, .ref xq18, .int 0])), (xq17, .inl (cy 0, 48, .inl (fun _ => 0))), (xq18, .inl (cy 0, 48, .inl (fun _ => 0))), (xq19, .inr (1, [.ref xq20, .ref xq21, .int 0])), (xq20, .inl (cy 0, 48, .inl (fun _ => 0))), (xq21, .inl (cy 0, 48, .inl (fun _ => 0))), (xq22, .inr (1, [.ref xq23, .ref xq24, .int 0])), (xq23, .inl (cy 0, 48, .inl (fun _ => 0))), (xq24, .inl (cy 0, 48, .inl (fun _ => 0))), (nq31, .inr (3, [.ref xq33, .ref xq34, .ref xq35, .int 0, .ref xq36, .ref xq37, .int 0, .int 0, .int 0])), (xq33, .inl (cy 0, 7, .inl (fun _ => 0))), (xq34, .inl (cy 0, 7, .inl (fun _ => 0))), (xq35, .inl (cy 0, 7, .inl (fun _ => 0))), (xq36, .inr (5, [.ref xq38, .int 0])), (xq38, .inl (cy 0, 7, .inl (fun _ => 0))), (xq37, .inr (5, [.ref xq39, .int 0])), (xq39, .inl (cy 0, 7, .inl (fun _ => 0)))] H := hP
  refine lv_aload_n hx hb dX10_init_37 rfl (lv_at hl 0 rfl) ?_
  refine va_new (ci := 5) (fs := [.null, .int 0]) (C := RX5) (T := TX5) (N := 2) hx hb hts inB5 tyX5 tyX5_ok hown (hts _ m_249) (hts _ m_200) (hts _ m_85) hE.1 hP hD hS hA rfl df5 (Nat.le_of_ble_eq_true rfl) (Nat.le_of_ble_eq_true rfl) dX10_init_38 (fun nq40 H hP hD hS => ?_)
  have hP : va_P G classes [(h0, .inr (10, [.ref nq1, .ref nq10, .ref nq31, .null, .null, .null, .int 0, .int 0])), (nq1, .inr (7, [.ref xq3, .ref xq4, .ref xq5, .ref xq6, .ref xq7, .int 0])), (xq3, .inl (cy 0, 192, .inl xf8)), (xq4, .inl (cy 0, 40, .inl (fun _ => 0))), (xq5, .inl (cy 0, 40, .inl (fun _ => 0))), (xq6, .inl (cy 0, 40, .inl (fun _ => 0))), (xq7, .inl (cy 0, 40, .inl (fun _ => 0))), (nq10, .inr (2, [.int 5, .int 9, .int 0, .ref xq12, .ref xq13, .ref xq14, .ref xq15])), (xq12, .inl (cy 0, 5, .inl xf25)), (xq13, .inl (cy 0, 5, .inl (fun _ => 0))), (xq14, .inl (cy 3, 3, .inr (.inr (.inr (.inr xg26))))), (xq15, .inl (cy 0, 5, .inl (fun _ => 0))), (xq16, .inr (1, [.ref xq17, .ref xq18, .int 0])), (xq17, .inl (cy 0, 48, .inl (fun _ => 0))), (xq18, .inl (cy 0, 48, .inl (fun _ => 0))), (xq19, .inr (1, [.ref xq20, .ref xq21, .int 0])), (xq20, .inl (cy 0, 48, .inl (fun _ => 0))), (xq21, .inl (cy 0, 48, .inl (fun _ => 0))), (xq22, .inr (1, [.ref xq23, .ref xq24, .int 0])), (xq23, .inl (cy 0, 48, .inl (fun _ => 0))), (xq24, .inl (cy 0, 48, .inl (fun _ => 0))), (nq31, .inr (3, [.ref xq33, .ref xq34, .ref xq35, .int 0, .ref xq36, .ref xq37, .int 0, .int 0, .int 0])), (xq33, .inl (cy 0, 7, .inl (fun _ => 0))), (xq34, .inl (cy 0, 7, .inl (fun _ => 0))), (xq35, .inl (cy 0, 7, .inl (fun _ => 0))), (xq36, .inr (5, [.ref xq38, .int 0])), (xq38, .inl (cy 0, 7, .inl (fun _ => 0))), (xq37, .inr (5, [.ref xq39, .int 0])), (xq39, .inl (cy 0, 7, .inl (fun _ => 0))), (nq40, .inr (5, [.null, .int 0]))] H := hP
  refine lv_dup hx hb dX10_init_41 rfl ?_
  refine lv_bipush (v := 48) hx hb dX10_init_42 (by decide) ?_
  refine wI (B := (B_c_X5_init G cy sk (va_A [(nq40, .inr (5, [.null, .int 0]))] H.size) nq40 48 48)) (wr := [(h0, .inr (10, [.ref nq1, .ref nq10, .ref nq31, .null, .null, .null, .int 0, .int 0])), (nq1, .inr (7, [.ref xq3, .ref xq4, .ref xq5, .ref xq6, .ref xq7, .int 0])), (xq3, .inl (cy 0, 192, .inl xf8)), (xq4, .inl (cy 0, 40, .inl (fun _ => 0))), (xq5, .inl (cy 0, 40, .inl (fun _ => 0))), (xq6, .inl (cy 0, 40, .inl (fun _ => 0))), (xq7, .inl (cy 0, 40, .inl (fun _ => 0))), (nq10, .inr (2, [.int 5, .int 9, .int 0, .ref xq12, .ref xq13, .ref xq14, .ref xq15])), (xq12, .inl (cy 0, 5, .inl xf25)), (xq13, .inl (cy 0, 5, .inl (fun _ => 0))), (xq14, .inl (cy 3, 3, .inr (.inr (.inr (.inr xg26))))), (xq15, .inl (cy 0, 5, .inl (fun _ => 0))), (xq16, .inr (1, [.ref xq17, .ref xq18, .int 0])), (xq17, .inl (cy 0, 48, .inl (fun _ => 0))), (xq18, .inl (cy 0, 48, .inl (fun _ => 0))), (xq19, .inr (1, [.ref xq20, .ref xq21, .int 0])), (xq20, .inl (cy 0, 48, .inl (fun _ => 0))), (xq21, .inl (cy 0, 48, .inl (fun _ => 0))), (xq22, .inr (1, [.ref xq23, .ref xq24, .int 0])), (xq23, .inl (cy 0, 48, .inl (fun _ => 0))), (xq24, .inl (cy 0, 48, .inl (fun _ => 0))), (nq31, .inr (3, [.ref xq33, .ref xq34, .ref xq35, .int 0, .ref xq36, .ref xq37, .int 0, .int 0, .int 0])), (xq33, .inl (cy 0, 7, .inl (fun _ => 0))), (xq34, .inl (cy 0, 7, .inl (fun _ => 0))), (xq35, .inl (cy 0, 7, .inl (fun _ => 0))), (xq36, .inr (5, [.ref xq38, .int 0])), (xq38, .inl (cy 0, 7, .inl (fun _ => 0))), (xq37, .inr (5, [.ref xq39, .int 0])), (xq39, .inl (cy 0, 7, .inl (fun _ => 0)))]) (rest := [.ref nq40, .ref h0]) hx hb hml hown hts hE (c_X5_init l G cy sk H.size nq40 48 48 rfl (by decide)) kI_X5_init m_250 rfl rfl ⟨(Nat.le_of_ble_eq_true rfl), (Nat.le_of_ble_eq_true rfl)⟩ hP hD hS hA [29] [0, 1, 2, 3, 4, 5, 6, 7, 8, 9, 10, 11, 12, 13, 14, 15, 16, 17, 18, 19, 20, 21, 22, 23, 24, 25, 26, 27, 28] rfl rfl rfl rfl (by decide) rfl rfl hl.1 (Nat.le_of_ble_eq_true rfl) dX10_init_44 ⟨(Nat.le_of_ble_eq_true rfl), (Nat.le_of_ble_eq_true rfl)⟩ (fun H locs haf hS => ?_)
  obtain ⟨xq42, hP1, hD1⟩ := haf.1
  obtain ⟨hP, hD⟩ := haf.2.1 _ hP1 hD1
  have hP : va_P G classes [(h0, .inr (10, [.ref nq1, .ref nq10, .ref nq31, .null, .null, .null, .int 0, .int 0])), (nq1, .inr (7, [.ref xq3, .ref xq4, .ref xq5, .ref xq6, .ref xq7, .int 0])), (xq3, .inl (cy 0, 192, .inl xf8)), (xq4, .inl (cy 0, 40, .inl (fun _ => 0))), (xq5, .inl (cy 0, 40, .inl (fun _ => 0))), (xq6, .inl (cy 0, 40, .inl (fun _ => 0))), (xq7, .inl (cy 0, 40, .inl (fun _ => 0))), (nq10, .inr (2, [.int 5, .int 9, .int 0, .ref xq12, .ref xq13, .ref xq14, .ref xq15])), (xq12, .inl (cy 0, 5, .inl xf25)), (xq13, .inl (cy 0, 5, .inl (fun _ => 0))), (xq14, .inl (cy 3, 3, .inr (.inr (.inr (.inr xg26))))), (xq15, .inl (cy 0, 5, .inl (fun _ => 0))), (xq16, .inr (1, [.ref xq17, .ref xq18, .int 0])), (xq17, .inl (cy 0, 48, .inl (fun _ => 0))), (xq18, .inl (cy 0, 48, .inl (fun _ => 0))), (xq19, .inr (1, [.ref xq20, .ref xq21, .int 0])), (xq20, .inl (cy 0, 48, .inl (fun _ => 0))), (xq21, .inl (cy 0, 48, .inl (fun _ => 0))), (xq22, .inr (1, [.ref xq23, .ref xq24, .int 0])), (xq23, .inl (cy 0, 48, .inl (fun _ => 0))), (xq24, .inl (cy 0, 48, .inl (fun _ => 0))), (nq31, .inr (3, [.ref xq33, .ref xq34, .ref xq35, .int 0, .ref xq36, .ref xq37, .int 0, .int 0, .int 0])), (xq33, .inl (cy 0, 7, .inl (fun _ => 0))), (xq34, .inl (cy 0, 7, .inl (fun _ => 0))), (xq35, .inl (cy 0, 7, .inl (fun _ => 0))), (xq36, .inr (5, [.ref xq38, .int 0])), (xq38, .inl (cy 0, 7, .inl (fun _ => 0))), (xq37, .inr (5, [.ref xq39, .int 0])), (xq39, .inl (cy 0, 7, .inl (fun _ => 0))), (nq40, .inr (5, [.ref xq42, .int 0])), (xq42, .inl (cy 0, 48, .inl (fun _ => 0)))] H := hP
  refine va_putF (D := G) (ci := 10) (v := .ref nq40) (ty := (.object "ClickStreet$Row")) (C := RX10) (T := TX10) (N := 8) hx hb hts inB10 tyX10 tyX10_ok nmX10 hown hE.1 hP hD hS 0 rfl rfl 3 (by decide) (hts _ m_317) (fun _ h9 => h9) rfl hin rfl (by decide +kernel) rfl rfl (Nat.le_of_ble_eq_true rfl) dX10_init_47 (fun H locs hP hD hS => ?_)
  have hP : va_P G classes [(h0, .inr (10, [.ref nq1, .ref nq10, .ref nq31, .ref nq40, .null, .null, .int 0, .int 0])), (nq1, .inr (7, [.ref xq3, .ref xq4, .ref xq5, .ref xq6, .ref xq7, .int 0])), (xq3, .inl (cy 0, 192, .inl xf8)), (xq4, .inl (cy 0, 40, .inl (fun _ => 0))), (xq5, .inl (cy 0, 40, .inl (fun _ => 0))), (xq6, .inl (cy 0, 40, .inl (fun _ => 0))), (xq7, .inl (cy 0, 40, .inl (fun _ => 0))), (nq10, .inr (2, [.int 5, .int 9, .int 0, .ref xq12, .ref xq13, .ref xq14, .ref xq15])), (xq12, .inl (cy 0, 5, .inl xf25)), (xq13, .inl (cy 0, 5, .inl (fun _ => 0))), (xq14, .inl (cy 3, 3, .inr (.inr (.inr (.inr xg26))))), (xq15, .inl (cy 0, 5, .inl (fun _ => 0))), (xq16, .inr (1, [.ref xq17, .ref xq18, .int 0])), (xq17, .inl (cy 0, 48, .inl (fun _ => 0))), (xq18, .inl (cy 0, 48, .inl (fun _ => 0))), (xq19, .inr (1, [.ref xq20, .ref xq21, .int 0])), (xq20, .inl (cy 0, 48, .inl (fun _ => 0))), (xq21, .inl (cy 0, 48, .inl (fun _ => 0))), (xq22, .inr (1, [.ref xq23, .ref xq24, .int 0])), (xq23, .inl (cy 0, 48, .inl (fun _ => 0))), (xq24, .inl (cy 0, 48, .inl (fun _ => 0))), (nq31, .inr (3, [.ref xq33, .ref xq34, .ref xq35, .int 0, .ref xq36, .ref xq37, .int 0, .int 0, .int 0])), (xq33, .inl (cy 0, 7, .inl (fun _ => 0))), (xq34, .inl (cy 0, 7, .inl (fun _ => 0))), (xq35, .inl (cy 0, 7, .inl (fun _ => 0))), (xq36, .inr (5, [.ref xq38, .int 0])), (xq38, .inl (cy 0, 7, .inl (fun _ => 0))), (xq37, .inr (5, [.ref xq39, .int 0])), (xq39, .inl (cy 0, 7, .inl (fun _ => 0))), (nq40, .inr (5, [.ref xq42, .int 0])), (xq42, .inl (cy 0, 48, .inl (fun _ => 0)))] H := hP
  refine lv_aload_n hx hb dX10_init_50 rfl (lv_at hl 0 rfl) ?_
  refine va_new (ci := 5) (fs := [.null, .int 0]) (C := RX5) (T := TX5) (N := 2) hx hb hts inB5 tyX5 tyX5_ok hown (hts _ m_249) (hts _ m_200) (hts _ m_85) hE.1 hP hD hS hA rfl df5 (Nat.le_of_ble_eq_true rfl) (Nat.le_of_ble_eq_true rfl) dX10_init_51 (fun nq43 H hP hD hS => ?_)
  have hP : va_P G classes [(h0, .inr (10, [.ref nq1, .ref nq10, .ref nq31, .ref nq40, .null, .null, .int 0, .int 0])), (nq1, .inr (7, [.ref xq3, .ref xq4, .ref xq5, .ref xq6, .ref xq7, .int 0])), (xq3, .inl (cy 0, 192, .inl xf8)), (xq4, .inl (cy 0, 40, .inl (fun _ => 0))), (xq5, .inl (cy 0, 40, .inl (fun _ => 0))), (xq6, .inl (cy 0, 40, .inl (fun _ => 0))), (xq7, .inl (cy 0, 40, .inl (fun _ => 0))), (nq10, .inr (2, [.int 5, .int 9, .int 0, .ref xq12, .ref xq13, .ref xq14, .ref xq15])), (xq12, .inl (cy 0, 5, .inl xf25)), (xq13, .inl (cy 0, 5, .inl (fun _ => 0))), (xq14, .inl (cy 3, 3, .inr (.inr (.inr (.inr xg26))))), (xq15, .inl (cy 0, 5, .inl (fun _ => 0))), (xq16, .inr (1, [.ref xq17, .ref xq18, .int 0])), (xq17, .inl (cy 0, 48, .inl (fun _ => 0))), (xq18, .inl (cy 0, 48, .inl (fun _ => 0))), (xq19, .inr (1, [.ref xq20, .ref xq21, .int 0])), (xq20, .inl (cy 0, 48, .inl (fun _ => 0))), (xq21, .inl (cy 0, 48, .inl (fun _ => 0))), (xq22, .inr (1, [.ref xq23, .ref xq24, .int 0])), (xq23, .inl (cy 0, 48, .inl (fun _ => 0))), (xq24, .inl (cy 0, 48, .inl (fun _ => 0))), (nq31, .inr (3, [.ref xq33, .ref xq34, .ref xq35, .int 0, .ref xq36, .ref xq37, .int 0, .int 0, .int 0])), (xq33, .inl (cy 0, 7, .inl (fun _ => 0))), (xq34, .inl (cy 0, 7, .inl (fun _ => 0))), (xq35, .inl (cy 0, 7, .inl (fun _ => 0))), (xq36, .inr (5, [.ref xq38, .int 0])), (xq38, .inl (cy 0, 7, .inl (fun _ => 0))), (xq37, .inr (5, [.ref xq39, .int 0])), (xq39, .inl (cy 0, 7, .inl (fun _ => 0))), (nq40, .inr (5, [.ref xq42, .int 0])), (xq42, .inl (cy 0, 48, .inl (fun _ => 0))), (nq43, .inr (5, [.null, .int 0]))] H := hP
  refine lv_dup hx hb dX10_init_54 rfl ?_
  refine lv_bipush (v := 24) hx hb dX10_init_55 (by decide) ?_
  refine wI (B := (B_c_X5_init G cy sk (va_A [(nq43, .inr (5, [.null, .int 0]))] H.size) nq43 24 24)) (wr := [(h0, .inr (10, [.ref nq1, .ref nq10, .ref nq31, .ref nq40, .null, .null, .int 0, .int 0])), (nq1, .inr (7, [.ref xq3, .ref xq4, .ref xq5, .ref xq6, .ref xq7, .int 0])), (xq3, .inl (cy 0, 192, .inl xf8)), (xq4, .inl (cy 0, 40, .inl (fun _ => 0))), (xq5, .inl (cy 0, 40, .inl (fun _ => 0))), (xq6, .inl (cy 0, 40, .inl (fun _ => 0))), (xq7, .inl (cy 0, 40, .inl (fun _ => 0))), (nq10, .inr (2, [.int 5, .int 9, .int 0, .ref xq12, .ref xq13, .ref xq14, .ref xq15])), (xq12, .inl (cy 0, 5, .inl xf25)), (xq13, .inl (cy 0, 5, .inl (fun _ => 0))), (xq14, .inl (cy 3, 3, .inr (.inr (.inr (.inr xg26))))), (xq15, .inl (cy 0, 5, .inl (fun _ => 0))), (xq16, .inr (1, [.ref xq17, .ref xq18, .int 0])), (xq17, .inl (cy 0, 48, .inl (fun _ => 0))), (xq18, .inl (cy 0, 48, .inl (fun _ => 0))), (xq19, .inr (1, [.ref xq20, .ref xq21, .int 0])), (xq20, .inl (cy 0, 48, .inl (fun _ => 0))), (xq21, .inl (cy 0, 48, .inl (fun _ => 0))), (xq22, .inr (1, [.ref xq23, .ref xq24, .int 0])), (xq23, .inl (cy 0, 48, .inl (fun _ => 0))), (xq24, .inl (cy 0, 48, .inl (fun _ => 0))), (nq31, .inr (3, [.ref xq33, .ref xq34, .ref xq35, .int 0, .ref xq36, .ref xq37, .int 0, .int 0, .int 0])), (xq33, .inl (cy 0, 7, .inl (fun _ => 0))), (xq34, .inl (cy 0, 7, .inl (fun _ => 0))), (xq35, .inl (cy 0, 7, .inl (fun _ => 0))), (xq36, .inr (5, [.ref xq38, .int 0])), (xq38, .inl (cy 0, 7, .inl (fun _ => 0))), (xq37, .inr (5, [.ref xq39, .int 0])), (xq39, .inl (cy 0, 7, .inl (fun _ => 0))), (nq40, .inr (5, [.ref xq42, .int 0])), (xq42, .inl (cy 0, 48, .inl (fun _ => 0)))]) (rest := [.ref nq43, .ref h0]) hx hb hml hown hts hE (c_X5_init l G cy sk H.size nq43 24 24 rfl (by decide)) kI_X5_init m_250 rfl rfl ⟨(Nat.le_of_ble_eq_true rfl), (Nat.le_of_ble_eq_true rfl)⟩ hP hD hS hA [31] [0, 1, 2, 3, 4, 5, 6, 7, 8, 9, 10, 11, 12, 13, 14, 15, 16, 17, 18, 19, 20, 21, 22, 23, 24, 25, 26, 27, 28, 29, 30] rfl rfl rfl rfl (by decide) rfl rfl hl.1 (Nat.le_of_ble_eq_true rfl) dX10_init_57 ⟨(Nat.le_of_ble_eq_true rfl), (Nat.le_of_ble_eq_true rfl)⟩ (fun H locs haf hS => ?_)
  obtain ⟨xq45, hP1, hD1⟩ := haf.1
  obtain ⟨hP, hD⟩ := haf.2.1 _ hP1 hD1
  have hP : va_P G classes [(h0, .inr (10, [.ref nq1, .ref nq10, .ref nq31, .ref nq40, .null, .null, .int 0, .int 0])), (nq1, .inr (7, [.ref xq3, .ref xq4, .ref xq5, .ref xq6, .ref xq7, .int 0])), (xq3, .inl (cy 0, 192, .inl xf8)), (xq4, .inl (cy 0, 40, .inl (fun _ => 0))), (xq5, .inl (cy 0, 40, .inl (fun _ => 0))), (xq6, .inl (cy 0, 40, .inl (fun _ => 0))), (xq7, .inl (cy 0, 40, .inl (fun _ => 0))), (nq10, .inr (2, [.int 5, .int 9, .int 0, .ref xq12, .ref xq13, .ref xq14, .ref xq15])), (xq12, .inl (cy 0, 5, .inl xf25)), (xq13, .inl (cy 0, 5, .inl (fun _ => 0))), (xq14, .inl (cy 3, 3, .inr (.inr (.inr (.inr xg26))))), (xq15, .inl (cy 0, 5, .inl (fun _ => 0))), (xq16, .inr (1, [.ref xq17, .ref xq18, .int 0])), (xq17, .inl (cy 0, 48, .inl (fun _ => 0))), (xq18, .inl (cy 0, 48, .inl (fun _ => 0))), (xq19, .inr (1, [.ref xq20, .ref xq21, .int 0])), (xq20, .inl (cy 0, 48, .inl (fun _ => 0))), (xq21, .inl (cy 0, 48, .inl (fun _ => 0))), (xq22, .inr (1, [.ref xq23, .ref xq24, .int 0])), (xq23, .inl (cy 0, 48, .inl (fun _ => 0))), (xq24, .inl (cy 0, 48, .inl (fun _ => 0))), (nq31, .inr (3, [.ref xq33, .ref xq34, .ref xq35, .int 0, .ref xq36, .ref xq37, .int 0, .int 0, .int 0])), (xq33, .inl (cy 0, 7, .inl (fun _ => 0))), (xq34, .inl (cy 0, 7, .inl (fun _ => 0))), (xq35, .inl (cy 0, 7, .inl (fun _ => 0))), (xq36, .inr (5, [.ref xq38, .int 0])), (xq38, .inl (cy 0, 7, .inl (fun _ => 0))), (xq37, .inr (5, [.ref xq39, .int 0])), (xq39, .inl (cy 0, 7, .inl (fun _ => 0))), (nq40, .inr (5, [.ref xq42, .int 0])), (xq42, .inl (cy 0, 48, .inl (fun _ => 0))), (nq43, .inr (5, [.ref xq45, .int 0])), (xq45, .inl (cy 0, 24, .inl (fun _ => 0)))] H := hP
  refine va_putF (D := G) (ci := 10) (v := .ref nq43) (ty := (.object "ClickStreet$Row")) (C := RX10) (T := TX10) (N := 8) hx hb hts inB10 tyX10 tyX10_ok nmX10 hown hE.1 hP hD hS 0 rfl rfl 4 (by decide) (hts _ m_319) (fun _ h9 => h9) rfl hin rfl (by decide +kernel) rfl rfl (Nat.le_of_ble_eq_true rfl) dX10_init_60 (fun H locs hP hD hS => ?_)
  have hP : va_P G classes [(h0, .inr (10, [.ref nq1, .ref nq10, .ref nq31, .ref nq40, .ref nq43, .null, .int 0, .int 0])), (nq1, .inr (7, [.ref xq3, .ref xq4, .ref xq5, .ref xq6, .ref xq7, .int 0])), (xq3, .inl (cy 0, 192, .inl xf8)), (xq4, .inl (cy 0, 40, .inl (fun _ => 0))), (xq5, .inl (cy 0, 40, .inl (fun _ => 0))), (xq6, .inl (cy 0, 40, .inl (fun _ => 0))), (xq7, .inl (cy 0, 40, .inl (fun _ => 0))), (nq10, .inr (2, [.int 5, .int 9, .int 0, .ref xq12, .ref xq13, .ref xq14, .ref xq15])), (xq12, .inl (cy 0, 5, .inl xf25)), (xq13, .inl (cy 0, 5, .inl (fun _ => 0))), (xq14, .inl (cy 3, 3, .inr (.inr (.inr (.inr xg26))))), (xq15, .inl (cy 0, 5, .inl (fun _ => 0))), (xq16, .inr (1, [.ref xq17, .ref xq18, .int 0])), (xq17, .inl (cy 0, 48, .inl (fun _ => 0))), (xq18, .inl (cy 0, 48, .inl (fun _ => 0))), (xq19, .inr (1, [.ref xq20, .ref xq21, .int 0])), (xq20, .inl (cy 0, 48, .inl (fun _ => 0))), (xq21, .inl (cy 0, 48, .inl (fun _ => 0))), (xq22, .inr (1, [.ref xq23, .ref xq24, .int 0])), (xq23, .inl (cy 0, 48, .inl (fun _ => 0))), (xq24, .inl (cy 0, 48, .inl (fun _ => 0))), (nq31, .inr (3, [.ref xq33, .ref xq34, .ref xq35, .int 0, .ref xq36, .ref xq37, .int 0, .int 0, .int 0])), (xq33, .inl (cy 0, 7, .inl (fun _ => 0))), (xq34, .inl (cy 0, 7, .inl (fun _ => 0))), (xq35, .inl (cy 0, 7, .inl (fun _ => 0))), (xq36, .inr (5, [.ref xq38, .int 0])), (xq38, .inl (cy 0, 7, .inl (fun _ => 0))), (xq37, .inr (5, [.ref xq39, .int 0])), (xq39, .inl (cy 0, 7, .inl (fun _ => 0))), (nq40, .inr (5, [.ref xq42, .int 0])), (xq42, .inl (cy 0, 48, .inl (fun _ => 0))), (nq43, .inr (5, [.ref xq45, .int 0])), (xq45, .inl (cy 0, 24, .inl (fun _ => 0)))] H := hP
  refine lv_aload_n hx hb dX10_init_63 rfl (lv_at hl 0 rfl) ?_
  refine lv_bipush (v := 8) hx hb dX10_init_64 (by decide) ?_
  refine nwQ (n := 8) (N := 8) (C := "ClickStreet$Walker") (t0 := 4) hx hb hown hts m_251 (by decide) hE hP hD hS hA rfl (by decide) (by decide) (Nat.le_of_ble_eq_true rfl) (Nat.le_of_ble_eq_true rfl) (Nat.le_of_ble_eq_true rfl) dX10_init_66 (fun nq46 H hP hD hS => ?_)
  have hP : va_P G classes [(h0, .inr (10, [.ref nq1, .ref nq10, .ref nq31, .ref nq40, .ref nq43, .null, .int 0, .int 0])), (nq1, .inr (7, [.ref xq3, .ref xq4, .ref xq5, .ref xq6, .ref xq7, .int 0])), (xq3, .inl (cy 0, 192, .inl xf8)), (xq4, .inl (cy 0, 40, .inl (fun _ => 0))), (xq5, .inl (cy 0, 40, .inl (fun _ => 0))), (xq6, .inl (cy 0, 40, .inl (fun _ => 0))), (xq7, .inl (cy 0, 40, .inl (fun _ => 0))), (nq10, .inr (2, [.int 5, .int 9, .int 0, .ref xq12, .ref xq13, .ref xq14, .ref xq15])), (xq12, .inl (cy 0, 5, .inl xf25)), (xq13, .inl (cy 0, 5, .inl (fun _ => 0))), (xq14, .inl (cy 3, 3, .inr (.inr (.inr (.inr xg26))))), (xq15, .inl (cy 0, 5, .inl (fun _ => 0))), (xq16, .inr (1, [.ref xq17, .ref xq18, .int 0])), (xq17, .inl (cy 0, 48, .inl (fun _ => 0))), (xq18, .inl (cy 0, 48, .inl (fun _ => 0))), (xq19, .inr (1, [.ref xq20, .ref xq21, .int 0])), (xq20, .inl (cy 0, 48, .inl (fun _ => 0))), (xq21, .inl (cy 0, 48, .inl (fun _ => 0))), (xq22, .inr (1, [.ref xq23, .ref xq24, .int 0])), (xq23, .inl (cy 0, 48, .inl (fun _ => 0))), (xq24, .inl (cy 0, 48, .inl (fun _ => 0))), (nq31, .inr (3, [.ref xq33, .ref xq34, .ref xq35, .int 0, .ref xq36, .ref xq37, .int 0, .int 0, .int 0])), (xq33, .inl (cy 0, 7, .inl (fun _ => 0))), (xq34, .inl (cy 0, 7, .inl (fun _ => 0))), (xq35, .inl (cy 0, 7, .inl (fun _ => 0))), (xq36, .inr (5, [.ref xq38, .int 0])), (xq38, .inl (cy 0, 7, .inl (fun _ => 0))), (xq37, .inr (5, [.ref xq39, .int 0])), (xq39, .inl (cy 0, 7, .inl (fun _ => 0))), (nq40, .inr (5, [.ref xq42, .int 0])), (xq42, .inl (cy 0, 48, .inl (fun _ => 0))), (nq43, .inr (5, [.ref xq45, .int 0])), (xq45, .inl (cy 0, 24, .inl (fun _ => 0))), (nq46, .inl (cy 4, 8, .inr (.inr (.inr (.inr (fun _ => none))))))] H := hP
  refine va_putF (D := G) (ci := 10) (v := .ref nq46) (ty := (.array (.object "ClickStreet$Walker"))) (C := RX10) (T := TX10) (N := 8) hx hb hts inB10 tyX10 tyX10_ok nmX10 hown hE.1 hP hD hS 0 rfl rfl 5 (by decide) (hts _ m_321) (fun _ h9 => h9) rfl hin rfl (by decide +kernel) rfl rfl (Nat.le_of_ble_eq_true rfl) dX10_init_69 (fun H locs hP hD hS => ?_)
  have hP : va_P G classes [(h0, .inr (10, [.ref nq1, .ref nq10, .ref nq31, .ref nq40, .ref nq43, .ref nq46, .int 0, .int 0])), (nq1, .inr (7, [.ref xq3, .ref xq4, .ref xq5, .ref xq6, .ref xq7, .int 0])), (xq3, .inl (cy 0, 192, .inl xf8)), (xq4, .inl (cy 0, 40, .inl (fun _ => 0))), (xq5, .inl (cy 0, 40, .inl (fun _ => 0))), (xq6, .inl (cy 0, 40, .inl (fun _ => 0))), (xq7, .inl (cy 0, 40, .inl (fun _ => 0))), (nq10, .inr (2, [.int 5, .int 9, .int 0, .ref xq12, .ref xq13, .ref xq14, .ref xq15])), (xq12, .inl (cy 0, 5, .inl xf25)), (xq13, .inl (cy 0, 5, .inl (fun _ => 0))), (xq14, .inl (cy 3, 3, .inr (.inr (.inr (.inr xg26))))), (xq15, .inl (cy 0, 5, .inl (fun _ => 0))), (xq16, .inr (1, [.ref xq17, .ref xq18, .int 0])), (xq17, .inl (cy 0, 48, .inl (fun _ => 0))), (xq18, .inl (cy 0, 48, .inl (fun _ => 0))), (xq19, .inr (1, [.ref xq20, .ref xq21, .int 0])), (xq20, .inl (cy 0, 48, .inl (fun _ => 0))), (xq21, .inl (cy 0, 48, .inl (fun _ => 0))), (xq22, .inr (1, [.ref xq23, .ref xq24, .int 0])), (xq23, .inl (cy 0, 48, .inl (fun _ => 0))), (xq24, .inl (cy 0, 48, .inl (fun _ => 0))), (nq31, .inr (3, [.ref xq33, .ref xq34, .ref xq35, .int 0, .ref xq36, .ref xq37, .int 0, .int 0, .int 0])), (xq33, .inl (cy 0, 7, .inl (fun _ => 0))), (xq34, .inl (cy 0, 7, .inl (fun _ => 0))), (xq35, .inl (cy 0, 7, .inl (fun _ => 0))), (xq36, .inr (5, [.ref xq38, .int 0])), (xq38, .inl (cy 0, 7, .inl (fun _ => 0))), (xq37, .inr (5, [.ref xq39, .int 0])), (xq39, .inl (cy 0, 7, .inl (fun _ => 0))), (nq40, .inr (5, [.ref xq42, .int 0])), (xq42, .inl (cy 0, 48, .inl (fun _ => 0))), (nq43, .inr (5, [.ref xq45, .int 0])), (xq45, .inl (cy 0, 24, .inl (fun _ => 0))), (nq46, .inl (cy 4, 8, .inr (.inr (.inr (.inr (fun _ => none))))))] H := hP
  refine lv_aload_n hx hb dX10_init_72 rfl (lv_at hl 0 rfl) ?_
  refine lv_iconst (v := 0) hx hb dX10_init_73 (by decide) ?_
  refine va_put (D := G) (ci := 10) (v := .int 0) (ty := .int) (C := RX10) (T := TX10) (N := 8) hx hb hts inB10 tyX10 tyX10_ok nmX10 hown hE.1 hP hD hS 0 rfl rfl 6 (by decide) (hts _ m_324) (fun _ h9 => h9) rfl (by decide +kernel) rfl rfl (Nat.le_of_ble_eq_true rfl) dX10_init_74 (fun H locs hP hD hS => ?_)
  have hP : va_P G classes [(h0, .inr (10, [.ref nq1, .ref nq10, .ref nq31, .ref nq40, .ref nq43, .ref nq46, .int 0, .int 0])), (nq1, .inr (7, [.ref xq3, .ref xq4, .ref xq5, .ref xq6, .ref xq7, .int 0])), (xq3, .inl (cy 0, 192, .inl xf8)), (xq4, .inl (cy 0, 40, .inl (fun _ => 0))), (xq5, .inl (cy 0, 40, .inl (fun _ => 0))), (xq6, .inl (cy 0, 40, .inl (fun _ => 0))), (xq7, .inl (cy 0, 40, .inl (fun _ => 0))), (nq10, .inr (2, [.int 5, .int 9, .int 0, .ref xq12, .ref xq13, .ref xq14, .ref xq15])), (xq12, .inl (cy 0, 5, .inl xf25)), (xq13, .inl (cy 0, 5, .inl (fun _ => 0))), (xq14, .inl (cy 3, 3, .inr (.inr (.inr (.inr xg26))))), (xq15, .inl (cy 0, 5, .inl (fun _ => 0))), (xq16, .inr (1, [.ref xq17, .ref xq18, .int 0])), (xq17, .inl (cy 0, 48, .inl (fun _ => 0))), (xq18, .inl (cy 0, 48, .inl (fun _ => 0))), (xq19, .inr (1, [.ref xq20, .ref xq21, .int 0])), (xq20, .inl (cy 0, 48, .inl (fun _ => 0))), (xq21, .inl (cy 0, 48, .inl (fun _ => 0))), (xq22, .inr (1, [.ref xq23, .ref xq24, .int 0])), (xq23, .inl (cy 0, 48, .inl (fun _ => 0))), (xq24, .inl (cy 0, 48, .inl (fun _ => 0))), (nq31, .inr (3, [.ref xq33, .ref xq34, .ref xq35, .int 0, .ref xq36, .ref xq37, .int 0, .int 0, .int 0])), (xq33, .inl (cy 0, 7, .inl (fun _ => 0))), (xq34, .inl (cy 0, 7, .inl (fun _ => 0))), (xq35, .inl (cy 0, 7, .inl (fun _ => 0))), (xq36, .inr (5, [.ref xq38, .int 0])), (xq38, .inl (cy 0, 7, .inl (fun _ => 0))), (xq37, .inr (5, [.ref xq39, .int 0])), (xq39, .inl (cy 0, 7, .inl (fun _ => 0))), (nq40, .inr (5, [.ref xq42, .int 0])), (xq42, .inl (cy 0, 48, .inl (fun _ => 0))), (nq43, .inr (5, [.ref xq45, .int 0])), (xq45, .inl (cy 0, 24, .inl (fun _ => 0))), (nq46, .inl (cy 4, 8, .inr (.inr (.inr (.inr (fun _ => none))))))] H := hP
  refine lv_aload_n hx hb dX10_init_77 rfl (lv_at hl 0 rfl) ?_
  refine lv_iconst (v := 0) hx hb dX10_init_78 (by decide) ?_
  refine va_put (D := G) (ci := 10) (v := .int 0) (ty := .int) (C := RX10) (T := TX10) (N := 8) hx hb hts inB10 tyX10 tyX10_ok nmX10 hown hE.1 hP hD hS 0 rfl rfl 7 (by decide) (hts _ m_326) (fun _ h9 => h9) rfl (by decide +kernel) rfl rfl (Nat.le_of_ble_eq_true rfl) dX10_init_79 (fun H locs hP hD hS => ?_)
  have hP : va_P G classes [(h0, .inr (10, [.ref nq1, .ref nq10, .ref nq31, .ref nq40, .ref nq43, .ref nq46, .int 0, .int 0])), (nq1, .inr (7, [.ref xq3, .ref xq4, .ref xq5, .ref xq6, .ref xq7, .int 0])), (xq3, .inl (cy 0, 192, .inl xf8)), (xq4, .inl (cy 0, 40, .inl (fun _ => 0))), (xq5, .inl (cy 0, 40, .inl (fun _ => 0))), (xq6, .inl (cy 0, 40, .inl (fun _ => 0))), (xq7, .inl (cy 0, 40, .inl (fun _ => 0))), (nq10, .inr (2, [.int 5, .int 9, .int 0, .ref xq12, .ref xq13, .ref xq14, .ref xq15])), (xq12, .inl (cy 0, 5, .inl xf25)), (xq13, .inl (cy 0, 5, .inl (fun _ => 0))), (xq14, .inl (cy 3, 3, .inr (.inr (.inr (.inr xg26))))), (xq15, .inl (cy 0, 5, .inl (fun _ => 0))), (xq16, .inr (1, [.ref xq17, .ref xq18, .int 0])), (xq17, .inl (cy 0, 48, .inl (fun _ => 0))), (xq18, .inl (cy 0, 48, .inl (fun _ => 0))), (xq19, .inr (1, [.ref xq20, .ref xq21, .int 0])), (xq20, .inl (cy 0, 48, .inl (fun _ => 0))), (xq21, .inl (cy 0, 48, .inl (fun _ => 0))), (xq22, .inr (1, [.ref xq23, .ref xq24, .int 0])), (xq23, .inl (cy 0, 48, .inl (fun _ => 0))), (xq24, .inl (cy 0, 48, .inl (fun _ => 0))), (nq31, .inr (3, [.ref xq33, .ref xq34, .ref xq35, .int 0, .ref xq36, .ref xq37, .int 0, .int 0, .int 0])), (xq33, .inl (cy 0, 7, .inl (fun _ => 0))), (xq34, .inl (cy 0, 7, .inl (fun _ => 0))), (xq35, .inl (cy 0, 7, .inl (fun _ => 0))), (xq36, .inr (5, [.ref xq38, .int 0])), (xq38, .inl (cy 0, 7, .inl (fun _ => 0))), (xq37, .inr (5, [.ref xq39, .int 0])), (xq39, .inl (cy 0, 7, .inl (fun _ => 0))), (nq40, .inr (5, [.ref xq42, .int 0])), (xq42, .inl (cy 0, 48, .inl (fun _ => 0))), (nq43, .inr (5, [.ref xq45, .int 0])), (xq45, .inl (cy 0, 24, .inl (fun _ => 0))), (nq46, .inl (cy 4, 8, .inr (.inr (.inr (.inr (fun _ => none))))))] H := hP
  refine lv_iconst (v := 0) hx hb dX10_init_82 (by decide) ?_
  refine lv_istore_n (lv' := [(1, .int 0), (0, .ref h0)]) hx hb dX10_init_83 rfl hl (by decide) rfl (fun ls hl => ?_)
  refine lv_iload_n hx hb dX10_init_84 rfl (lv_at hl 0 rfl) ?_
  refine lv_bipush (v := 8) hx hb dX10_init_85 (by decide) ?_
  refine lv_icmp_ge (tgt := 109) hx hb dX10_init_87 (by decide) (fun h9 => absurd h9 (by decide)) (fun _ => ?_)
  refine lv_aload_n hx hb dX10_init_90 rfl (lv_at hl 1 rfl) ?_
  refine va_get (D := G) (ci := 10) (v := .ref nq46) (C := RX10) (T := TX10) (N := 8) hx hb hts inB10 hown hE.1 hP 0 rfl rfl 5 (by decide) (hts _ m_321) (fun _ h9 => h9) rfl dX10_init_91 ?_
  refine lv_iload_n hx hb dX10_init_94 rfl (lv_at hl 0 rfl) ?_
  refine va_new (ci := 9) (fs := [.int 0, .int 0, .int 0, .int 0, .int 0, .int 0, .int 0, .int 0, .int 0, .null, .null]) (C := RX9) (T := TX9) (N := 11) hx hb hts inB9 tyX9 tyX9_ok hown (hts _ m_251) (hts _ m_253) (hts _ m_87) hE.1 hP hD hS hA rfl df9 (Nat.le_of_ble_eq_true rfl) (Nat.le_of_ble_eq_true rfl) dX10_init_95 (fun nq47 H hP hD hS => ?_)
  have hP : va_P G classes [(h0, .inr (10, [.ref nq1, .ref nq10, .ref nq31, .ref nq40, .ref nq43, .ref nq46, .int 0, .int 0])), (nq1, .inr (7, [.ref xq3, .ref xq4, .ref xq5, .ref xq6, .ref xq7, .int 0])), (xq3, .inl (cy 0, 192, .inl xf8)), (xq4, .inl (cy 0, 40, .inl (fun _ => 0))), (xq5, .inl (cy 0, 40, .inl (fun _ => 0))), (xq6, .inl (cy 0, 40, .inl (fun _ => 0))), (xq7, .inl (cy 0, 40, .inl (fun _ => 0))), (nq10, .inr (2, [.int 5, .int 9, .int 0, .ref xq12, .ref xq13, .ref xq14, .ref xq15])), (xq12, .inl (cy 0, 5, .inl xf25)), (xq13, .inl (cy 0, 5, .inl (fun _ => 0))), (xq14, .inl (cy 3, 3, .inr (.inr (.inr (.inr xg26))))), (xq15, .inl (cy 0, 5, .inl (fun _ => 0))), (xq16, .inr (1, [.ref xq17, .ref xq18, .int 0])), (xq17, .inl (cy 0, 48, .inl (fun _ => 0))), (xq18, .inl (cy 0, 48, .inl (fun _ => 0))), (xq19, .inr (1, [.ref xq20, .ref xq21, .int 0])), (xq20, .inl (cy 0, 48, .inl (fun _ => 0))), (xq21, .inl (cy 0, 48, .inl (fun _ => 0))), (xq22, .inr (1, [.ref xq23, .ref xq24, .int 0])), (xq23, .inl (cy 0, 48, .inl (fun _ => 0))), (xq24, .inl (cy 0, 48, .inl (fun _ => 0))), (nq31, .inr (3, [.ref xq33, .ref xq34, .ref xq35, .int 0, .ref xq36, .ref xq37, .int 0, .int 0, .int 0])), (xq33, .inl (cy 0, 7, .inl (fun _ => 0))), (xq34, .inl (cy 0, 7, .inl (fun _ => 0))), (xq35, .inl (cy 0, 7, .inl (fun _ => 0))), (xq36, .inr (5, [.ref xq38, .int 0])), (xq38, .inl (cy 0, 7, .inl (fun _ => 0))), (xq37, .inr (5, [.ref xq39, .int 0])), (xq39, .inl (cy 0, 7, .inl (fun _ => 0))), (nq40, .inr (5, [.ref xq42, .int 0])), (xq42, .inl (cy 0, 48, .inl (fun _ => 0))), (nq43, .inr (5, [.ref xq45, .int 0])), (xq45, .inl (cy 0, 24, .inl (fun _ => 0))), (nq46, .inl (cy 4, 8, .inr (.inr (.inr (.inr (fun _ => none)))))), (nq47, .inr (9, [.int 0, .int 0, .int 0, .int 0, .int 0, .int 0, .int 0, .int 0, .int 0, .null, .null]))] H := hP
  refine lv_dup hx hb dX10_init_98 rfl ?_
  refine wIN (B := (B_c_X9_init G cy sk (va_A [(nq47, .inr (9, [.int 0, .int 0, .int 0, .int 0, .int 0, .int 0, .int 0, .int 0, .int 0, .null, .null]))] H.size) nq47)) (wr := [(h0, .inr (10, [.ref nq1, .ref nq10, .ref nq31, .ref nq40, .ref nq43, .ref nq46, .int 0, .int 0])), (nq1, .inr (7, [.ref xq3, .ref xq4, .ref xq5, .ref xq6, .ref xq7, .int 0])), (xq3, .inl (cy 0, 192, .inl xf8)), (xq4, .inl (cy 0, 40, .inl (fun _ => 0))), (xq5, .inl (cy 0, 40, .inl (fun _ => 0))), (xq6, .inl (cy 0, 40, .inl (fun _ => 0))), (xq7, .inl (cy 0, 40, .inl (fun _ => 0))), (nq10, .inr (2, [.int 5, .int 9, .int 0, .ref xq12, .ref xq13, .ref xq14, .ref xq15])), (xq12, .inl (cy 0, 5, .inl xf25)), (xq13, .inl (cy 0, 5, .inl (fun _ => 0))), (xq14, .inl (cy 3, 3, .inr (.inr (.inr (.inr xg26))))), (xq15, .inl (cy 0, 5, .inl (fun _ => 0))), (xq16, .inr (1, [.ref xq17, .ref xq18, .int 0])), (xq17, .inl (cy 0, 48, .inl (fun _ => 0))), (xq18, .inl (cy 0, 48, .inl (fun _ => 0))), (xq19, .inr (1, [.ref xq20, .ref xq21, .int 0])), (xq20, .inl (cy 0, 48, .inl (fun _ => 0))), (xq21, .inl (cy 0, 48, .inl (fun _ => 0))), (xq22, .inr (1, [.ref xq23, .ref xq24, .int 0])), (xq23, .inl (cy 0, 48, .inl (fun _ => 0))), (xq24, .inl (cy 0, 48, .inl (fun _ => 0))), (nq31, .inr (3, [.ref xq33, .ref xq34, .ref xq35, .int 0, .ref xq36, .ref xq37, .int 0, .int 0, .int 0])), (xq33, .inl (cy 0, 7, .inl (fun _ => 0))), (xq34, .inl (cy 0, 7, .inl (fun _ => 0))), (xq35, .inl (cy 0, 7, .inl (fun _ => 0))), (xq36, .inr (5, [.ref xq38, .int 0])), (xq38, .inl (cy 0, 7, .inl (fun _ => 0))), (xq37, .inr (5, [.ref xq39, .int 0])), (xq39, .inl (cy 0, 7, .inl (fun _ => 0))), (nq40, .inr (5, [.ref xq42, .int 0])), (xq42, .inl (cy 0, 48, .inl (fun _ => 0))), (nq43, .inr (5, [.ref xq45, .int 0])), (xq45, .inl (cy 0, 24, .inl (fun _ => 0))), (nq46, .inl (cy 4, 8, .inr (.inr (.inr (.inr (fun _ => none))))))]) (rest := [.ref nq47, .int 0, .ref nq46]) (host := "ClickStreet") hx hb hml hown hts hE (c_X9_init l G cy sk H.size nq47) kI_X9_init (by decide +kernel) rfl rfl ⟨(Nat.le_of_ble_eq_true rfl), (Nat.le_of_ble_eq_true rfl)⟩ hP hD hS hA [34] [0, 1, 2, 3, 4, 5, 6, 7, 8, 9, 10, 11, 12, 13, 14, 15, 16, 17, 18, 19, 20, 21, 22, 23, 24, 25, 26, 27, 28, 29, 30, 31, 32, 33] rfl rfl rfl rfl (by decide) rfl rfl hl.1 (Nat.le_of_ble_eq_true rfl) dX10_init_99 ⟨(Nat.le_of_ble_eq_true rfl), (Nat.le_of_ble_eq_true rfl)⟩ (fun H locs haf hS => ?_)
  obtain ⟨xq49, xq50, hP1, hD1⟩ := haf.1
  obtain ⟨hP, hD⟩ := haf.2.1 _ hP1 hD1
  have hP : va_P G classes [(h0, .inr (10, [.ref nq1, .ref nq10, .ref nq31, .ref nq40, .ref nq43, .ref nq46, .int 0, .int 0])), (nq1, .inr (7, [.ref xq3, .ref xq4, .ref xq5, .ref xq6, .ref xq7, .int 0])), (xq3, .inl (cy 0, 192, .inl xf8)), (xq4, .inl (cy 0, 40, .inl (fun _ => 0))), (xq5, .inl (cy 0, 40, .inl (fun _ => 0))), (xq6, .inl (cy 0, 40, .inl (fun _ => 0))), (xq7, .inl (cy 0, 40, .inl (fun _ => 0))), (nq10, .inr (2, [.int 5, .int 9, .int 0, .ref xq12, .ref xq13, .ref xq14, .ref xq15])), (xq12, .inl (cy 0, 5, .inl xf25)), (xq13, .inl (cy 0, 5, .inl (fun _ => 0))), (xq14, .inl (cy 3, 3, .inr (.inr (.inr (.inr xg26))))), (xq15, .inl (cy 0, 5, .inl (fun _ => 0))), (xq16, .inr (1, [.ref xq17, .ref xq18, .int 0])), (xq17, .inl (cy 0, 48, .inl (fun _ => 0))), (xq18, .inl (cy 0, 48, .inl (fun _ => 0))), (xq19, .inr (1, [.ref xq20, .ref xq21, .int 0])), (xq20, .inl (cy 0, 48, .inl (fun _ => 0))), (xq21, .inl (cy 0, 48, .inl (fun _ => 0))), (xq22, .inr (1, [.ref xq23, .ref xq24, .int 0])), (xq23, .inl (cy 0, 48, .inl (fun _ => 0))), (xq24, .inl (cy 0, 48, .inl (fun _ => 0))), (nq31, .inr (3, [.ref xq33, .ref xq34, .ref xq35, .int 0, .ref xq36, .ref xq37, .int 0, .int 0, .int 0])), (xq33, .inl (cy 0, 7, .inl (fun _ => 0))), (xq34, .inl (cy 0, 7, .inl (fun _ => 0))), (xq35, .inl (cy 0, 7, .inl (fun _ => 0))), (xq36, .inr (5, [.ref xq38, .int 0])), (xq38, .inl (cy 0, 7, .inl (fun _ => 0))), (xq37, .inr (5, [.ref xq39, .int 0])), (xq39, .inl (cy 0, 7, .inl (fun _ => 0))), (nq40, .inr (5, [.ref xq42, .int 0])), (xq42, .inl (cy 0, 48, .inl (fun _ => 0))), (nq43, .inr (5, [.ref xq45, .int 0])), (xq45, .inl (cy 0, 24, .inl (fun _ => 0))), (nq46, .inl (cy 4, 8, .inr (.inr (.inr (.inr (fun _ => none)))))), (nq47, .inr (9, [.int 0, .int 0, .int 0, .int 5, .int 60, .int 0, .int 0, .int 0, .int 0, .ref xq49, .ref xq50])), (xq49, .inl (cy 0, 192, .inl (fun _ => 0))), (xq50, .inl (cy 0, 192, .inl (fun _ => 0)))] H := hP
  refine va_astq hx hb hE.1 hP hD hS 33 4 34 9 rfl rfl rfl rfl (vinL (by decide)) dX10_init_102 (fun H locs hP hD hS => ?_)
  have hP : va_P G classes [(h0, .inr (10, [.ref nq1, .ref nq10, .ref nq31, .ref nq40, .ref nq43, .ref nq46, .int 0, .int 0])), (nq1, .inr (7, [.ref xq3, .ref xq4, .ref xq5, .ref xq6, .ref xq7, .int 0])), (xq3, .inl (cy 0, 192, .inl xf8)), (xq4, .inl (cy 0, 40, .inl (fun _ => 0))), (xq5, .inl (cy 0, 40, .inl (fun _ => 0))), (xq6, .inl (cy 0, 40, .inl (fun _ => 0))), (xq7, .inl (cy 0, 40, .inl (fun _ => 0))), (nq10, .inr (2, [.int 5, .int 9, .int 0, .ref xq12, .ref xq13, .ref xq14, .ref xq15])), (xq12, .inl (cy 0, 5, .inl xf25)), (xq13, .inl (cy 0, 5, .inl (fun _ => 0))), (xq14, .inl (cy 3, 3, .inr (.inr (.inr (.inr xg26))))), (xq15, .inl (cy 0, 5, .inl (fun _ => 0))), (xq16, .inr (1, [.ref xq17, .ref xq18, .int 0])), (xq17, .inl (cy 0, 48, .inl (fun _ => 0))), (xq18, .inl (cy 0, 48, .inl (fun _ => 0))), (xq19, .inr (1, [.ref xq20, .ref xq21, .int 0])), (xq20, .inl (cy 0, 48, .inl (fun _ => 0))), (xq21, .inl (cy 0, 48, .inl (fun _ => 0))), (xq22, .inr (1, [.ref xq23, .ref xq24, .int 0])), (xq23, .inl (cy 0, 48, .inl (fun _ => 0))), (xq24, .inl (cy 0, 48, .inl (fun _ => 0))), (nq31, .inr (3, [.ref xq33, .ref xq34, .ref xq35, .int 0, .ref xq36, .ref xq37, .int 0, .int 0, .int 0])), (xq33, .inl (cy 0, 7, .inl (fun _ => 0))), (xq34, .inl (cy 0, 7, .inl (fun _ => 0))), (xq35, .inl (cy 0, 7, .inl (fun _ => 0))), (xq36, .inr (5, [.ref xq38, .int 0])), (xq38, .inl (cy 0, 7, .inl (fun _ => 0))), (xq37, .inr (5, [.ref xq39, .int 0])), (xq39, .inl (cy 0, 7, .inl (fun _ => 0))), (nq40, .inr (5, [.ref xq42, .int 0])), (xq42, .inl (cy 0, 48, .inl (fun _ => 0))), (nq43, .inr (5, [.ref xq45, .int 0])), (xq45, .inl (cy 0, 24, .inl (fun _ => 0))), (nq46, .inl (cy 4, 8, .inr (.inr (.inr (.inr (va_up (fun _ => none) 0 (some nq47))))))), (nq47, .inr (9, [.int 0, .int 0, .int 0, .int 5, .int 60, .int 0, .int 0, .int 0, .int 0, .ref xq49, .ref xq50])), (xq49, .inl (cy 0, 192, .inl (fun _ => 0))), (xq50, .inl (cy 0, 192, .inl (fun _ => 0)))] H := hP
  refine lv_iinc (v := 1) (lv' := [(1, .int 1), (0, .ref h0)]) hx hb dX10_init_103 hl (k := 0) rfl (by decide) (by decide) rfl (fun ls hl => ?_)
  refine lv_goto (tgt := 84) hx hb dX10_init_106 (by decide) ?_
  refine lv_iload_n hx hb dX10_init_84 rfl (lv_at hl 0 rfl) ?_
  refine lv_bipush (v := 8) hx hb dX10_init_85 (by decide) ?_
  refine lv_icmp_ge (tgt := 109) hx hb dX10_init_87 (by decide) (fun h9 => absurd h9 (by decide)) (fun _ => ?_)
  refine lv_aload_n hx hb dX10_init_90 rfl (lv_at hl 1 rfl) ?_
  refine va_get (D := G) (ci := 10) (v := .ref nq46) (C := RX10) (T := TX10) (N := 8) hx hb hts inB10 hown hE.1 hP 0 rfl rfl 5 (by decide) (hts _ m_321) (fun _ h9 => h9) rfl dX10_init_91 ?_
  refine lv_iload_n hx hb dX10_init_94 rfl (lv_at hl 0 rfl) ?_
  refine va_new (ci := 9) (fs := [.int 0, .int 0, .int 0, .int 0, .int 0, .int 0, .int 0, .int 0, .int 0, .null, .null]) (C := RX9) (T := TX9) (N := 11) hx hb hts inB9 tyX9 tyX9_ok hown (hts _ m_251) (hts _ m_253) (hts _ m_87) hE.1 hP hD hS hA rfl df9 (Nat.le_of_ble_eq_true rfl) (Nat.le_of_ble_eq_true rfl) dX10_init_95 (fun nq51 H hP hD hS => ?_)
  have hP : va_P G classes [(h0, .inr (10, [.ref nq1, .ref nq10, .ref nq31, .ref nq40, .ref nq43, .ref nq46, .int 0, .int 0])), (nq1, .inr (7, [.ref xq3, .ref xq4, .ref xq5, .ref xq6, .ref xq7, .int 0])), (xq3, .inl (cy 0, 192, .inl xf8)), (xq4, .inl (cy 0, 40, .inl (fun _ => 0))), (xq5, .inl (cy 0, 40, .inl (fun _ => 0))), (xq6, .inl (cy 0, 40, .inl (fun _ => 0))), (xq7, .inl (cy 0, 40, .inl (fun _ => 0))), (nq10, .inr (2, [.int 5, .int 9, .int 0, .ref xq12, .ref xq13, .ref xq14, .ref xq15])), (xq12, .inl (cy 0, 5, .inl xf25)), (xq13, .inl (cy 0, 5, .inl (fun _ => 0))), (xq14, .inl (cy 3, 3, .inr (.inr (.inr (.inr xg26))))), (xq15, .inl (cy 0, 5, .inl (fun _ => 0))), (xq16, .inr (1, [.ref xq17, .ref xq18, .int 0])), (xq17, .inl (cy 0, 48, .inl (fun _ => 0))), (xq18, .inl (cy 0, 48, .inl (fun _ => 0))), (xq19, .inr (1, [.ref xq20, .ref xq21, .int 0])), (xq20, .inl (cy 0, 48, .inl (fun _ => 0))), (xq21, .inl (cy 0, 48, .inl (fun _ => 0))), (xq22, .inr (1, [.ref xq23, .ref xq24, .int 0])), (xq23, .inl (cy 0, 48, .inl (fun _ => 0))), (xq24, .inl (cy 0, 48, .inl (fun _ => 0))), (nq31, .inr (3, [.ref xq33, .ref xq34, .ref xq35, .int 0, .ref xq36, .ref xq37, .int 0, .int 0, .int 0])), (xq33, .inl (cy 0, 7, .inl (fun _ => 0))), (xq34, .inl (cy 0, 7, .inl (fun _ => 0))), (xq35, .inl (cy 0, 7, .inl (fun _ => 0))), (xq36, .inr (5, [.ref xq38, .int 0])), (xq38, .inl (cy 0, 7, .inl (fun _ => 0))), (xq37, .inr (5, [.ref xq39, .int 0])), (xq39, .inl (cy 0, 7, .inl (fun _ => 0))), (nq40, .inr (5, [.ref xq42, .int 0])), (xq42, .inl (cy 0, 48, .inl (fun _ => 0))), (nq43, .inr (5, [.ref xq45, .int 0])), (xq45, .inl (cy 0, 24, .inl (fun _ => 0))), (nq46, .inl (cy 4, 8, .inr (.inr (.inr (.inr (va_up (fun _ => none) 0 (some nq47))))))), (nq47, .inr (9, [.int 0, .int 0, .int 0, .int 5, .int 60, .int 0, .int 0, .int 0, .int 0, .ref xq49, .ref xq50])), (xq49, .inl (cy 0, 192, .inl (fun _ => 0))), (xq50, .inl (cy 0, 192, .inl (fun _ => 0))), (nq51, .inr (9, [.int 0, .int 0, .int 0, .int 0, .int 0, .int 0, .int 0, .int 0, .int 0, .null, .null]))] H := hP
  refine lv_dup hx hb dX10_init_98 rfl ?_
  refine wIN (B := (B_c_X9_init G cy sk (va_A [(nq51, .inr (9, [.int 0, .int 0, .int 0, .int 0, .int 0, .int 0, .int 0, .int 0, .int 0, .null, .null]))] H.size) nq51)) (wr := [(h0, .inr (10, [.ref nq1, .ref nq10, .ref nq31, .ref nq40, .ref nq43, .ref nq46, .int 0, .int 0])), (nq1, .inr (7, [.ref xq3, .ref xq4, .ref xq5, .ref xq6, .ref xq7, .int 0])), (xq3, .inl (cy 0, 192, .inl xf8)), (xq4, .inl (cy 0, 40, .inl (fun _ => 0))), (xq5, .inl (cy 0, 40, .inl (fun _ => 0))), (xq6, .inl (cy 0, 40, .inl (fun _ => 0))), (xq7, .inl (cy 0, 40, .inl (fun _ => 0))), (nq10, .inr (2, [.int 5, .int 9, .int 0, .ref xq12, .ref xq13, .ref xq14, .ref xq15])), (xq12, .inl (cy 0, 5, .inl xf25)), (xq13, .inl (cy 0, 5, .inl (fun _ => 0))), (xq14, .inl (cy 3, 3, .inr (.inr (.inr (.inr xg26))))), (xq15, .inl (cy 0, 5, .inl (fun _ => 0))), (xq16, .inr (1, [.ref xq17, .ref xq18, .int 0])), (xq17, .inl (cy 0, 48, .inl (fun _ => 0))), (xq18, .inl (cy 0, 48, .inl (fun _ => 0))), (xq19, .inr (1, [.ref xq20, .ref xq21, .int 0])), (xq20, .inl (cy 0, 48, .inl (fun _ => 0))), (xq21, .inl (cy 0, 48, .inl (fun _ => 0))), (xq22, .inr (1, [.ref xq23, .ref xq24, .int 0])), (xq23, .inl (cy 0, 48, .inl (fun _ => 0))), (xq24, .inl (cy 0, 48, .inl (fun _ => 0))), (nq31, .inr (3, [.ref xq33, .ref xq34, .ref xq35, .int 0, .ref xq36, .ref xq37, .int 0, .int 0, .int 0])), (xq33, .inl (cy 0, 7, .inl (fun _ => 0))), (xq34, .inl (cy 0, 7, .inl (fun _ => 0))), (xq35, .inl (cy 0, 7, .inl (fun _ => 0))), (xq36, .inr (5, [.ref xq38, .int 0])), (xq38, .inl (cy 0, 7, .inl (fun _ => 0))), (xq37, .inr (5, [.ref xq39, .int 0])), (xq39, .inl (cy 0, 7, .inl (fun _ => 0))), (nq40, .inr (5, [.ref xq42, .int 0])), (xq42, .inl (cy 0, 48, .inl (fun _ => 0))), (nq43, .inr (5, [.ref xq45, .int 0])), (xq45, .inl (cy 0, 24, .inl (fun _ => 0))), (nq46, .inl (cy 4, 8, .inr (.inr (.inr (.inr (va_up (fun _ => none) 0 (some nq47))))))), (nq47, .inr (9, [.int 0, .int 0, .int 0, .int 5, .int 60, .int 0, .int 0, .int 0, .int 0, .ref xq49, .ref xq50])), (xq49, .inl (cy 0, 192, .inl (fun _ => 0))), (xq50, .inl (cy 0, 192, .inl (fun _ => 0)))]) (rest := [.ref nq51, .int 1, .ref nq46]) (host := "ClickStreet") hx hb hml hown hts hE (c_X9_init l G cy sk H.size nq51) kI_X9_init (by decide +kernel) rfl rfl ⟨(Nat.le_of_ble_eq_true rfl), (Nat.le_of_ble_eq_true rfl)⟩ hP hD hS hA [37] [0, 1, 2, 3, 4, 5, 6, 7, 8, 9, 10, 11, 12, 13, 14, 15, 16, 17, 18, 19, 20, 21, 22, 23, 24, 25, 26, 27, 28, 29, 30, 31, 32, 33, 34, 35, 36] rfl rfl rfl rfl (by decide) rfl rfl hl.1 (Nat.le_of_ble_eq_true rfl) dX10_init_99 ⟨(Nat.le_of_ble_eq_true rfl), (Nat.le_of_ble_eq_true rfl)⟩ (fun H locs haf hS => ?_)
  obtain ⟨xq53, xq54, hP1, hD1⟩ := haf.1
  obtain ⟨hP, hD⟩ := haf.2.1 _ hP1 hD1
  have hP : va_P G classes [(h0, .inr (10, [.ref nq1, .ref nq10, .ref nq31, .ref nq40, .ref nq43, .ref nq46, .int 0, .int 0])), (nq1, .inr (7, [.ref xq3, .ref xq4, .ref xq5, .ref xq6, .ref xq7, .int 0])), (xq3, .inl (cy 0, 192, .inl xf8)), (xq4, .inl (cy 0, 40, .inl (fun _ => 0))), (xq5, .inl (cy 0, 40, .inl (fun _ => 0))), (xq6, .inl (cy 0, 40, .inl (fun _ => 0))), (xq7, .inl (cy 0, 40, .inl (fun _ => 0))), (nq10, .inr (2, [.int 5, .int 9, .int 0, .ref xq12, .ref xq13, .ref xq14, .ref xq15])), (xq12, .inl (cy 0, 5, .inl xf25)), (xq13, .inl (cy 0, 5, .inl (fun _ => 0))), (xq14, .inl (cy 3, 3, .inr (.inr (.inr (.inr xg26))))), (xq15, .inl (cy 0, 5, .inl (fun _ => 0))), (xq16, .inr (1, [.ref xq17, .ref xq18, .int 0])), (xq17, .inl (cy 0, 48, .inl (fun _ => 0))), (xq18, .inl (cy 0, 48, .inl (fun _ => 0))), (xq19, .inr (1, [.ref xq20, .ref xq21, .int 0])), (xq20, .inl (cy 0, 48, .inl (fun _ => 0))), (xq21, .inl (cy 0, 48, .inl (fun _ => 0))), (xq22, .inr (1, [.ref xq23, .ref xq24, .int 0])), (xq23, .inl (cy 0, 48, .inl (fun _ => 0))), (xq24, .inl (cy 0, 48, .inl (fun _ => 0))), (nq31, .inr (3, [.ref xq33, .ref xq34, .ref xq35, .int 0, .ref xq36, .ref xq37, .int 0, .int 0, .int 0])), (xq33, .inl (cy 0, 7, .inl (fun _ => 0))), (xq34, .inl (cy 0, 7, .inl (fun _ => 0))), (xq35, .inl (cy 0, 7, .inl (fun _ => 0))), (xq36, .inr (5, [.ref xq38, .int 0])), (xq38, .inl (cy 0, 7, .inl (fun _ => 0))), (xq37, .inr (5, [.ref xq39, .int 0])), (xq39, .inl (cy 0, 7, .inl (fun _ => 0))), (nq40, .inr (5, [.ref xq42, .int 0])), (xq42, .inl (cy 0, 48, .inl (fun _ => 0))), (nq43, .inr (5, [.ref xq45, .int 0])), (xq45, .inl (cy 0, 24, .inl (fun _ => 0))), (nq46, .inl (cy 4, 8, .inr (.inr (.inr (.inr (va_up (fun _ => none) 0 (some nq47))))))), (nq47, .inr (9, [.int 0, .int 0, .int 0, .int 5, .int 60, .int 0, .int 0, .int 0, .int 0, .ref xq49, .ref xq50])), (xq49, .inl (cy 0, 192, .inl (fun _ => 0))), (xq50, .inl (cy 0, 192, .inl (fun _ => 0))), (nq51, .inr (9, [.int 0, .int 0, .int 0, .int 5, .int 60, .int 0, .int 0, .int 0, .int 0, .ref xq53, .ref xq54])), (xq53, .inl (cy 0, 192, .inl (fun _ => 0))), (xq54, .inl (cy 0, 192, .inl (fun _ => 0)))] H := hP
  refine va_astq hx hb hE.1 hP hD hS 33 4 37 9 rfl rfl rfl rfl (vinL (by decide)) dX10_init_102 (fun H locs hP hD hS => ?_)
  have hP : va_P G classes [(h0, .inr (10, [.ref nq1, .ref nq10, .ref nq31, .ref nq40, .ref nq43, .ref nq46, .int 0, .int 0])), (nq1, .inr (7, [.ref xq3, .ref xq4, .ref xq5, .ref xq6, .ref xq7, .int 0])), (xq3, .inl (cy 0, 192, .inl xf8)), (xq4, .inl (cy 0, 40, .inl (fun _ => 0))), (xq5, .inl (cy 0, 40, .inl (fun _ => 0))), (xq6, .inl (cy 0, 40, .inl (fun _ => 0))), (xq7, .inl (cy 0, 40, .inl (fun _ => 0))), (nq10, .inr (2, [.int 5, .int 9, .int 0, .ref xq12, .ref xq13, .ref xq14, .ref xq15])), (xq12, .inl (cy 0, 5, .inl xf25)), (xq13, .inl (cy 0, 5, .inl (fun _ => 0))), (xq14, .inl (cy 3, 3, .inr (.inr (.inr (.inr xg26))))), (xq15, .inl (cy 0, 5, .inl (fun _ => 0))), (xq16, .inr (1, [.ref xq17, .ref xq18, .int 0])), (xq17, .inl (cy 0, 48, .inl (fun _ => 0))), (xq18, .inl (cy 0, 48, .inl (fun _ => 0))), (xq19, .inr (1, [.ref xq20, .ref xq21, .int 0])), (xq20, .inl (cy 0, 48, .inl (fun _ => 0))), (xq21, .inl (cy 0, 48, .inl (fun _ => 0))), (xq22, .inr (1, [.ref xq23, .ref xq24, .int 0])), (xq23, .inl (cy 0, 48, .inl (fun _ => 0))), (xq24, .inl (cy 0, 48, .inl (fun _ => 0))), (nq31, .inr (3, [.ref xq33, .ref xq34, .ref xq35, .int 0, .ref xq36, .ref xq37, .int 0, .int 0, .int 0])), (xq33, .inl (cy 0, 7, .inl (fun _ => 0))), (xq34, .inl (cy 0, 7, .inl (fun _ => 0))), (xq35, .inl (cy 0, 7, .inl (fun _ => 0))), (xq36, .inr (5, [.ref xq38, .int 0])), (xq38, .inl (cy 0, 7, .inl (fun _ => 0))), (xq37, .inr (5, [.ref xq39, .int 0])), (xq39, .inl (cy 0, 7, .inl (fun _ => 0))), (nq40, .inr (5, [.ref xq42, .int 0])), (xq42, .inl (cy 0, 48, .inl (fun _ => 0))), (nq43, .inr (5, [.ref xq45, .int 0])), (xq45, .inl (cy 0, 24, .inl (fun _ => 0))), (nq46, .inl (cy 4, 8, .inr (.inr (.inr (.inr (va_up (va_up (fun _ => none) 0 (some nq47)) 1 (some nq51))))))), (nq47, .inr (9, [.int 0, .int 0, .int 0, .int 5, .int 60, .int 0, .int 0, .int 0, .int 0, .ref xq49, .ref xq50])), (xq49, .inl (cy 0, 192, .inl (fun _ => 0))), (xq50, .inl (cy 0, 192, .inl (fun _ => 0))), (nq51, .inr (9, [.int 0, .int 0, .int 0, .int 5, .int 60, .int 0, .int 0, .int 0, .int 0, .ref xq53, .ref xq54])), (xq53, .inl (cy 0, 192, .inl (fun _ => 0))), (xq54, .inl (cy 0, 192, .inl (fun _ => 0)))] H := hP
  refine lv_iinc (v := 2) (lv' := [(1, .int 2), (0, .ref h0)]) hx hb dX10_init_103 hl (k := 0) rfl (by decide) (by decide) rfl (fun ls hl => ?_)
  refine lv_goto (tgt := 84) hx hb dX10_init_106 (by decide) ?_
  refine lv_iload_n hx hb dX10_init_84 rfl (lv_at hl 0 rfl) ?_
  refine lv_bipush (v := 8) hx hb dX10_init_85 (by decide) ?_
  refine lv_icmp_ge (tgt := 109) hx hb dX10_init_87 (by decide) (fun h9 => absurd h9 (by decide)) (fun _ => ?_)
  refine lv_aload_n hx hb dX10_init_90 rfl (lv_at hl 1 rfl) ?_
  refine va_get (D := G) (ci := 10) (v := .ref nq46) (C := RX10) (T := TX10) (N := 8) hx hb hts inB10 hown hE.1 hP 0 rfl rfl 5 (by decide) (hts _ m_321) (fun _ h9 => h9) rfl dX10_init_91 ?_
  refine lv_iload_n hx hb dX10_init_94 rfl (lv_at hl 0 rfl) ?_
  refine va_new (ci := 9) (fs := [.int 0, .int 0, .int 0, .int 0, .int 0, .int 0, .int 0, .int 0, .int 0, .null, .null]) (C := RX9) (T := TX9) (N := 11) hx hb hts inB9 tyX9 tyX9_ok hown (hts _ m_251) (hts _ m_253) (hts _ m_87) hE.1 hP hD hS hA rfl df9 (Nat.le_of_ble_eq_true rfl) (Nat.le_of_ble_eq_true rfl) dX10_init_95 (fun nq55 H hP hD hS => ?_)
  have hP : va_P G classes [(h0, .inr (10, [.ref nq1, .ref nq10, .ref nq31, .ref nq40, .ref nq43, .ref nq46, .int 0, .int 0])), (nq1, .inr (7, [.ref xq3, .ref xq4, .ref xq5, .ref xq6, .ref xq7, .int 0])), (xq3, .inl (cy 0, 192, .inl xf8)), (xq4, .inl (cy 0, 40, .inl (fun _ => 0))), (xq5, .inl (cy 0, 40, .inl (fun _ => 0))), (xq6, .inl (cy 0, 40, .inl (fun _ => 0))), (xq7, .inl (cy 0, 40, .inl (fun _ => 0))), (nq10, .inr (2, [.int 5, .int 9, .int 0, .ref xq12, .ref xq13, .ref xq14, .ref xq15])), (xq12, .inl (cy 0, 5, .inl xf25)), (xq13, .inl (cy 0, 5, .inl (fun _ => 0))), (xq14, .inl (cy 3, 3, .inr (.inr (.inr (.inr xg26))))), (xq15, .inl (cy 0, 5, .inl (fun _ => 0))), (xq16, .inr (1, [.ref xq17, .ref xq18, .int 0])), (xq17, .inl (cy 0, 48, .inl (fun _ => 0))), (xq18, .inl (cy 0, 48, .inl (fun _ => 0))), (xq19, .inr (1, [.ref xq20, .ref xq21, .int 0])), (xq20, .inl (cy 0, 48, .inl (fun _ => 0))), (xq21, .inl (cy 0, 48, .inl (fun _ => 0))), (xq22, .inr (1, [.ref xq23, .ref xq24, .int 0])), (xq23, .inl (cy 0, 48, .inl (fun _ => 0))), (xq24, .inl (cy 0, 48, .inl (fun _ => 0))), (nq31, .inr (3, [.ref xq33, .ref xq34, .ref xq35, .int 0, .ref xq36, .ref xq37, .int 0, .int 0, .int 0])), (xq33, .inl (cy 0, 7, .inl (fun _ => 0))), (xq34, .inl (cy 0, 7, .inl (fun _ => 0))), (xq35, .inl (cy 0, 7, .inl (fun _ => 0))), (xq36, .inr (5, [.ref xq38, .int 0])), (xq38, .inl (cy 0, 7, .inl (fun _ => 0))), (xq37, .inr (5, [.ref xq39, .int 0])), (xq39, .inl (cy 0, 7, .inl (fun _ => 0))), (nq40, .inr (5, [.ref xq42, .int 0])), (xq42, .inl (cy 0, 48, .inl (fun _ => 0))), (nq43, .inr (5, [.ref xq45, .int 0])), (xq45, .inl (cy 0, 24, .inl (fun _ => 0))), (nq46, .inl (cy 4, 8, .inr (.inr (.inr (.inr (va_up (va_up (fun _ => none) 0 (some nq47)) 1 (some nq51))))))), (nq47, .inr (9, [.int 0, .int 0, .int 0, .int 5, .int 60, .int 0, .int 0, .int 0, .int 0, .ref xq49, .ref xq50])), (xq49, .inl (cy 0, 192, .inl (fun _ => 0))), (xq50, .inl (cy 0, 192, .inl (fun _ => 0))), (nq51, .inr (9, [.int 0, .int 0, .int 0, .int 5, .int 60, .int 0, .int 0, .int 0, .int 0, .ref xq53, .ref xq54])), (xq53, .inl (cy 0, 192, .inl (fun _ => 0))), (xq54, .inl (cy 0, 192, .inl (fun _ => 0))), (nq55, .inr (9, [.int 0, .int 0, .int 0, .int 0, .int 0, .int 0, .int 0, .int 0, .int 0, .null, .null]))] H := hP
  refine lv_dup hx hb dX10_init_98 rfl ?_
  refine wIN (B := (B_c_X9_init G cy sk (va_A [(nq55, .inr (9, [.int 0, .int 0, .int 0, .int 0, .int 0, .int 0, .int 0, .int 0, .int 0, .null, .null]))] H.size) nq55)) (wr := [(h0, .inr (10, [.ref nq1, .ref nq10, .ref nq31, .ref nq40, .ref nq43, .ref nq46, .int 0, .int 0])), (nq1, .inr (7, [.ref xq3, .ref xq4, .ref xq5, .ref xq6, .ref xq7, .int 0])), (xq3, .inl (cy 0, 192, .inl xf8)), (xq4, .inl (cy 0, 40, .inl (fun _ => 0))), (xq5, .inl (cy 0, 40, .inl (fun _ => 0))), (xq6, .inl (cy 0, 40, .inl (fun _ => 0))), (xq7, .inl (cy 0, 40, .inl (fun _ => 0))), (nq10, .inr (2, [.int 5, .int 9, .int 0, .ref xq12, .ref xq13, .ref xq14, .ref xq15])), (xq12, .inl (cy 0, 5, .inl xf25)), (xq13, .inl (cy 0, 5, .inl (fun _ => 0))), (xq14, .inl (cy 3, 3, .inr (.inr (.inr (.inr xg26))))), (xq15, .inl (cy 0, 5, .inl (fun _ => 0))), (xq16, .inr (1, [.ref xq17, .ref xq18, .int 0])), (xq17, .inl (cy 0, 48, .inl (fun _ => 0))), (xq18, .inl (cy 0, 48, .inl (fun _ => 0))), (xq19, .inr (1, [.ref xq20, .ref xq21, .int 0])), (xq20, .inl (cy 0, 48, .inl (fun _ => 0))), (xq21, .inl (cy 0, 48, .inl (fun _ => 0))), (xq22, .inr (1, [.ref xq23, .ref xq24, .int 0])), (xq23, .inl (cy 0, 48, .inl (fun _ => 0))), (xq24, .inl (cy 0, 48, .inl (fun _ => 0))), (nq31, .inr (3, [.ref xq33, .ref xq34, .ref xq35, .int 0, .ref xq36, .ref xq37, .int 0, .int 0, .int 0])), (xq33, .inl (cy 0, 7, .inl (fun _ => 0))), (xq34, .inl (cy 0, 7, .inl (fun _ => 0))), (xq35, .inl (cy 0, 7, .inl (fun _ => 0))), (xq36, .inr (5, [.ref xq38, .int 0])), (xq38, .inl (cy 0, 7, .inl (fun _ => 0))), (xq37, .inr (5, [.ref xq39, .int 0])), (xq39, .inl (cy 0, 7, .inl (fun _ => 0))), (nq40, .inr (5, [.ref xq42, .int 0])), (xq42, .inl (cy 0, 48, .inl (fun _ => 0))), (nq43, .inr (5, [.ref xq45, .int 0])), (xq45, .inl (cy 0, 24, .inl (fun _ => 0))), (nq46, .inl (cy 4, 8, .inr (.inr (.inr (.inr (va_up (va_up (fun _ => none) 0 (some nq47)) 1 (some nq51))))))), (nq47, .inr (9, [.int 0, .int 0, .int 0, .int 5, .int 60, .int 0, .int 0, .int 0, .int 0, .ref xq49, .ref xq50])), (xq49, .inl (cy 0, 192, .inl (fun _ => 0))), (xq50, .inl (cy 0, 192, .inl (fun _ => 0))), (nq51, .inr (9, [.int 0, .int 0, .int 0, .int 5, .int 60, .int 0, .int 0, .int 0, .int 0, .ref xq53, .ref xq54])), (xq53, .inl (cy 0, 192, .inl (fun _ => 0))), (xq54, .inl (cy 0, 192, .inl (fun _ => 0)))]) (rest := [.ref nq55, .int 2, .ref nq46]) (host := "ClickStreet") hx hb hml hown hts hE (c_X9_init l G cy sk H.size nq55) kI_X9_init (by decide +kernel) rfl rfl ⟨(Nat.le_of_ble_eq_true rfl), (Nat.le_of_ble_eq_true rfl)⟩ hP hD hS hA [40] [0, 1, 2, 3, 4, 5, 6, 7, 8, 9, 10, 11, 12, 13, 14, 15, 16, 17, 18, 19, 20, 21, 22, 23, 24, 25, 26, 27, 28, 29, 30, 31, 32, 33, 34, 35, 36, 37, 38, 39] rfl rfl rfl rfl (by decide) rfl rfl hl.1 (Nat.le_of_ble_eq_true rfl) dX10_init_99 ⟨(Nat.le_of_ble_eq_true rfl), (Nat.le_of_ble_eq_true rfl)⟩ (fun H locs haf hS => ?_)
  obtain ⟨xq57, xq58, hP1, hD1⟩ := haf.1
  obtain ⟨hP, hD⟩ := haf.2.1 _ hP1 hD1
  have hP : va_P G classes [(h0, .inr (10, [.ref nq1, .ref nq10, .ref nq31, .ref nq40, .ref nq43, .ref nq46, .int 0, .int 0])), (nq1, .inr (7, [.ref xq3, .ref xq4, .ref xq5, .ref xq6, .ref xq7, .int 0])), (xq3, .inl (cy 0, 192, .inl xf8)), (xq4, .inl (cy 0, 40, .inl (fun _ => 0))), (xq5, .inl (cy 0, 40, .inl (fun _ => 0))), (xq6, .inl (cy 0, 40, .inl (fun _ => 0))), (xq7, .inl (cy 0, 40, .inl (fun _ => 0))), (nq10, .inr (2, [.int 5, .int 9, .int 0, .ref xq12, .ref xq13, .ref xq14, .ref xq15])), (xq12, .inl (cy 0, 5, .inl xf25)), (xq13, .inl (cy 0, 5, .inl (fun _ => 0))), (xq14, .inl (cy 3, 3, .inr (.inr (.inr (.inr xg26))))), (xq15, .inl (cy 0, 5, .inl (fun _ => 0))), (xq16, .inr (1, [.ref xq17, .ref xq18, .int 0])), (xq17, .inl (cy 0, 48, .inl (fun _ => 0))), (xq18, .inl (cy 0, 48, .inl (fun _ => 0))), (xq19, .inr (1, [.ref xq20, .ref xq21, .int 0])), (xq20, .inl (cy 0, 48, .inl (fun _ => 0))), (xq21, .inl (cy 0, 48, .inl (fun _ => 0))), (xq22, .inr (1, [.ref xq23, .ref xq24, .int 0])), (xq23, .inl (cy 0, 48, .inl (fun _ => 0))), (xq24, .inl (cy 0, 48, .inl (fun _ => 0))), (nq31, .inr (3, [.ref xq33, .ref xq34, .ref xq35, .int 0, .ref xq36, .ref xq37, .int 0, .int 0, .int 0])), (xq33, .inl (cy 0, 7, .inl (fun _ => 0))), (xq34, .inl (cy 0, 7, .inl (fun _ => 0))), (xq35, .inl (cy 0, 7, .inl (fun _ => 0))), (xq36, .inr (5, [.ref xq38, .int 0])), (xq38, .inl (cy 0, 7, .inl (fun _ => 0))), (xq37, .inr (5, [.ref xq39, .int 0])), (xq39, .inl (cy 0, 7, .inl (fun _ => 0))), (nq40, .inr (5, [.ref xq42, .int 0])), (xq42, .inl (cy 0, 48, .inl (fun _ => 0))), (nq43, .inr (5, [.ref xq45, .int 0])), (xq45, .inl (cy 0, 24, .inl (fun _ => 0))), (nq46, .inl (cy 4, 8, .inr (.inr (.inr (.inr (va_up (va_up (fun _ => none) 0 (some nq47)) 1 (some nq51))))))), (nq47, .inr (9, [.int 0, .int 0, .int 0, .int 5, .int 60, .int 0, .int 0, .int 0, .int 0, .ref xq49, .ref xq50])), (xq49, .inl (cy 0, 192, .inl (fun _ => 0))), (xq50, .inl (cy 0, 192, .inl (fun _ => 0))), (nq51, .inr (9, [.int 0, .int 0, .int 0, .int 5, .int 60, .int 0, .int 0, .int 0, .int 0, .ref xq53, .ref xq54])), (xq53, .inl (cy 0, 192, .inl (fun _ => 0))), (xq54, .inl (cy 0, 192, .inl (fun _ => 0))), (nq55, .inr (9, [.int 0, .int 0, .int 0, .int 5, .int 60, .int 0, .int 0, .int 0, .int 0, .ref xq57, .ref xq58])), (xq57, .inl (cy 0, 192, .inl (fun _ => 0))), (xq58, .inl (cy 0, 192, .inl (fun _ => 0)))] H := hP
  refine va_astq hx hb hE.1 hP hD hS 33 4 40 9 rfl rfl rfl rfl (vinL (by decide)) dX10_init_102 (fun H locs hP hD hS => ?_)
  have hP : va_P G classes [(h0, .inr (10, [.ref nq1, .ref nq10, .ref nq31, .ref nq40, .ref nq43, .ref nq46, .int 0, .int 0])), (nq1, .inr (7, [.ref xq3, .ref xq4, .ref xq5, .ref xq6, .ref xq7, .int 0])), (xq3, .inl (cy 0, 192, .inl xf8)), (xq4, .inl (cy 0, 40, .inl (fun _ => 0))), (xq5, .inl (cy 0, 40, .inl (fun _ => 0))), (xq6, .inl (cy 0, 40, .inl (fun _ => 0))), (xq7, .inl (cy 0, 40, .inl (fun _ => 0))), (nq10, .inr (2, [.int 5, .int 9, .int 0, .ref xq12, .ref xq13, .ref xq14, .ref xq15])), (xq12, .inl (cy 0, 5, .inl xf25)), (xq13, .inl (cy 0, 5, .inl (fun _ => 0))), (xq14, .inl (cy 3, 3, .inr (.inr (.inr (.inr xg26))))), (xq15, .inl (cy 0, 5, .inl (fun _ => 0))), (xq16, .inr (1, [.ref xq17, .ref xq18, .int 0])), (xq17, .inl (cy 0, 48, .inl (fun _ => 0))), (xq18, .inl (cy 0, 48, .inl (fun _ => 0))), (xq19, .inr (1, [.ref xq20, .ref xq21, .int 0])), (xq20, .inl (cy 0, 48, .inl (fun _ => 0))), (xq21, .inl (cy 0, 48, .inl (fun _ => 0))), (xq22, .inr (1, [.ref xq23, .ref xq24, .int 0])), (xq23, .inl (cy 0, 48, .inl (fun _ => 0))), (xq24, .inl (cy 0, 48, .inl (fun _ => 0))), (nq31, .inr (3, [.ref xq33, .ref xq34, .ref xq35, .int 0, .ref xq36, .ref xq37, .int 0, .int 0, .int 0])), (xq33, .inl (cy 0, 7, .inl (fun _ => 0))), (xq34, .inl (cy 0, 7, .inl (fun _ => 0))), (xq35, .inl (cy 0, 7, .inl (fun _ => 0))), (xq36, .inr (5, [.ref xq38, .int 0])), (xq38, .inl (cy 0, 7, .inl (fun _ => 0))), (xq37, .inr (5, [.ref xq39, .int 0])), (xq39, .inl (cy 0, 7, .inl (fun _ => 0))), (nq40, .inr (5, [.ref xq42, .int 0])), (xq42, .inl (cy 0, 48, .inl (fun _ => 0))), (nq43, .inr (5, [.ref xq45, .int 0])), (xq45, .inl (cy 0, 24, .inl (fun _ => 0))), (nq46, .inl (cy 4, 8, .inr (.inr (.inr (.inr (va_up (va_up (va_up (fun _ => none) 0 (some nq47)) 1 (some nq51)) 2 (some nq55))))))), (nq47, .inr (9, [.int 0, .int 0, .int 0, .int 5, .int 60, .int 0, .int 0, .int 0, .int 0, .ref xq49, .ref xq50])), (xq49, .inl (cy 0, 192, .inl (fun _ => 0))), (xq50, .inl (cy 0, 192, .inl (fun _ => 0))), (nq51, .inr (9, [.int 0, .int 0, .int 0, .int 5, .int 60, .int 0, .int 0, .int 0, .int 0, .ref xq53, .ref xq54])), (xq53, .inl (cy 0, 192, .inl (fun _ => 0))), (xq54, .inl (cy 0, 192, .inl (fun _ => 0))), (nq55, .inr (9, [.int 0, .int 0, .int 0, .int 5, .int 60, .int 0, .int 0, .int 0, .int 0, .ref xq57, .ref xq58])), (xq57, .inl (cy 0, 192, .inl (fun _ => 0))), (xq58, .inl (cy 0, 192, .inl (fun _ => 0)))] H := hP
  refine lv_iinc (v := 3) (lv' := [(1, .int 3), (0, .ref h0)]) hx hb dX10_init_103 hl (k := 0) rfl (by decide) (by decide) rfl (fun ls hl => ?_)
  refine lv_goto (tgt := 84) hx hb dX10_init_106 (by decide) ?_
  refine lv_iload_n hx hb dX10_init_84 rfl (lv_at hl 0 rfl) ?_
  refine lv_bipush (v := 8) hx hb dX10_init_85 (by decide) ?_
  refine lv_icmp_ge (tgt := 109) hx hb dX10_init_87 (by decide) (fun h9 => absurd h9 (by decide)) (fun _ => ?_)
  refine lv_aload_n hx hb dX10_init_90 rfl (lv_at hl 1 rfl) ?_
  refine va_get (D := G) (ci := 10) (v := .ref nq46) (C := RX10) (T := TX10) (N := 8) hx hb hts inB10 hown hE.1 hP 0 rfl rfl 5 (by decide) (hts _ m_321) (fun _ h9 => h9) rfl dX10_init_91 ?_
  refine lv_iload_n hx hb dX10_init_94 rfl (lv_at hl 0 rfl) ?_
  refine va_new (ci := 9) (fs := [.int 0, .int 0, .int 0, .int 0, .int 0, .int 0, .int 0, .int 0, .int 0, .null, .null]) (C := RX9) (T := TX9) (N := 11) hx hb hts inB9 tyX9 tyX9_ok hown (hts _ m_251) (hts _ m_253) (hts _ m_87) hE.1 hP hD hS hA rfl df9 (Nat.le_of_ble_eq_true rfl) (Nat.le_of_ble_eq_true rfl) dX10_init_95 (fun nq59 H hP hD hS => ?_)
  have hP : va_P G classes [(h0, .inr (10, [.ref nq1, .ref nq10, .ref nq31, .ref nq40, .ref nq43, .ref nq46, .int 0, .int 0])), (nq1, .inr (7, [.ref xq3, .ref xq4, .ref xq5, .ref xq6, .ref xq7, .int 0])), (xq3, .inl (cy 0, 192, .inl xf8)), (xq4, .inl (cy 0, 40, .inl (fun _ => 0))), (xq5, .inl (cy 0, 40, .inl (fun _ => 0))), (xq6, .inl (cy 0, 40, .inl (fun _ => 0))), (xq7, .inl (cy 0, 40, .inl (fun _ => 0))), (nq10, .inr (2, [.int 5, .int 9, .int 0, .ref xq12, .ref xq13, .ref xq14, .ref xq15])), (xq12, .inl (cy 0, 5, .inl xf25)), (xq13, .inl (cy 0, 5, .inl (fun _ => 0))), (xq14, .inl (cy 3, 3, .inr (.inr (.inr (.inr xg26))))), (xq15, .inl (cy 0, 5, .inl (fun _ => 0))), (xq16, .inr (1, [.ref xq17, .ref xq18, .int 0])), (xq17, .inl (cy 0, 48, .inl (fun _ => 0))), (xq18, .inl (cy 0, 48, .inl (fun _ => 0))), (xq19, .inr (1, [.ref xq20, .ref xq21, .int 0])), (xq20, .inl (cy 0, 48, .inl (fun _ => 0))), (xq21, .inl (cy 0, 48, .inl (fun _ => 0))), (xq22, .inr (1, [.ref xq23, .ref xq24, .int 0])), (xq23, .inl (cy 0, 48, .inl (fun _ => 0))), (xq24, .inl (cy 0, 48, .inl (fun _ => 0))), (nq31, .inr (3, [.ref xq33, .ref xq34, .ref xq35, .int 0, .ref xq36, .ref xq37, .int 0, .int 0, .int 0])), (xq33, .inl (cy 0, 7, .inl (fun _ => 0))), (xq34, .inl (cy 0, 7, .inl (fun _ => 0))), (xq35, .inl (cy 0, 7, .inl (fun _ => 0))), (xq36, .inr (5, [.ref xq38, .int 0])), (xq38, .inl (cy 0, 7, .inl (fun _ => 0))), (xq37, .inr (5, [.ref xq39, .int 0])), (xq39, .inl (cy 0, 7, .inl (fun _ => 0))), (nq40, .inr (5, [.ref xq42, .int 0])), (xq42, .inl (cy 0, 48, .inl (fun _ => 0))), (nq43, .inr (5, [.ref xq45, .int 0])), (xq45, .inl (cy 0, 24, .inl (fun _ => 0))), (nq46, .inl (cy 4, 8, .inr (.inr (.inr (.inr (va_up (va_up (va_up (fun _ => none) 0 (some nq47)) 1 (some nq51)) 2 (some nq55))))))), (nq47, .inr (9, [.int 0, .int 0, .int 0, .int 5, .int 60, .int 0, .int 0, .int 0, .int 0, .ref xq49, .ref xq50])), (xq49, .inl (cy 0, 192, .inl (fun _ => 0))), (xq50, .inl (cy 0, 192, .inl (fun _ => 0))), (nq51, .inr (9, [.int 0, .int 0, .int 0, .int 5, .int 60, .int 0, .int 0, .int 0, .int 0, .ref xq53, .ref xq54])), (xq53, .inl (cy 0, 192, .inl (fun _ => 0))), (xq54, .inl (cy 0, 192, .inl (fun _ => 0))), (nq55, .inr (9, [.int 0, .int 0, .int 0, .int 5, .int 60, .int 0, .int 0, .int 0, .int 0, .ref xq57, .ref xq58])), (xq57, .inl (cy 0, 192, .inl (fun _ => 0))), (xq58, .inl (cy 0, 192, .inl (fun _ => 0))), (nq59, .inr (9, [.int 0, .int 0, .int 0, .int 0, .int 0, .int 0, .int 0, .int 0, .int 0, .null, .null]))] H := hP
  refine lv_dup hx hb dX10_init_98 rfl ?_
  refine wIN (B := (B_c_X9_init G cy sk (va_A [(nq59, .inr (9, [.int 0, .int 0, .int 0, .int 0, .int 0, .int 0, .int 0, .int 0, .int 0, .null, .null]))] H.size) nq59)) (wr := [(h0, .inr (10, [.ref nq1, .ref nq10, .ref nq31, .ref nq40, .ref nq43, .ref nq46, .int 0, .int 0])), (nq1, .inr (7, [.ref xq3, .ref xq4, .ref xq5, .ref xq6, .ref xq7, .int 0])), (xq3, .inl (cy 0, 192, .inl xf8)), (xq4, .inl (cy 0, 40, .inl (fun _ => 0))), (xq5, .inl (cy 0, 40, .inl (fun _ => 0))), (xq6, .inl (cy 0, 40, .inl (fun _ => 0))), (xq7, .inl (cy 0, 40, .inl (fun _ => 0))), (nq10, .inr (2, [.int 5, .int 9, .int 0, .ref xq12, .ref xq13, .ref xq14, .ref xq15])), (xq12, .inl (cy 0, 5, .inl xf25)), (xq13, .inl (cy 0, 5, .inl (fun _ => 0))), (xq14, .inl (cy 3, 3, .inr (.inr (.inr (.inr xg26))))), (xq15, .inl (cy 0, 5, .inl (fun _ => 0))), (xq16, .inr (1, [.ref xq17, .ref xq18, .int 0])), (xq17, .inl (cy 0, 48, .inl (fun _ => 0))), (xq18, .inl (cy 0, 48, .inl (fun _ => 0))), (xq19, .inr (1, [.ref xq20, .ref xq21, .int 0])), (xq20, .inl (cy 0, 48, .inl (fun _ => 0))), (xq21, .inl (cy 0, 48, .inl (fun _ => 0))), (xq22, .inr (1, [.ref xq23, .ref xq24, .int 0])), (xq23, .inl (cy 0, 48, .inl (fun _ => 0))), (xq24, .inl (cy 0, 48, .inl (fun _ => 0))), (nq31, .inr (3, [.ref xq33, .ref xq34, .ref xq35, .int 0, .ref xq36, .ref xq37, .int 0, .int 0, .int 0])), (xq33, .inl (cy 0, 7, .inl (fun _ => 0))), (xq34, .inl (cy 0, 7, .inl (fun _ => 0))), (xq35, .inl (cy 0, 7, .inl (fun _ => 0))), (xq36, .inr (5, [.ref xq38, .int 0])), (xq38, .inl (cy 0, 7, .inl (fun _ => 0))), (xq37, .inr (5, [.ref xq39, .int 0])), (xq39, .inl (cy 0, 7, .inl (fun _ => 0))), (nq40, .inr (5, [.ref xq42, .int 0])), (xq42, .inl (cy 0, 48, .inl (fun _ => 0))), (nq43, .inr (5, [.ref xq45, .int 0])), (xq45, .inl (cy 0, 24, .inl (fun _ => 0))), (nq46, .inl (cy 4, 8, .inr (.inr (.inr (.inr (va_up (va_up (va_up (fun _ => none) 0 (some nq47)) 1 (some nq51)) 2 (some nq55))))))), (nq47, .inr (9, [.int 0, .int 0, .int 0, .int 5, .int 60, .int 0, .int 0, .int 0, .int 0, .ref xq49, .ref xq50])), (xq49, .inl (cy 0, 192, .inl (fun _ => 0))), (xq50, .inl (cy 0, 192, .inl (fun _ => 0))), (nq51, .inr (9, [.int 0, .int 0, .int 0, .int 5, .int 60, .int 0, .int 0, .int 0, .int 0, .ref xq53, .ref xq54])), (xq53, .inl (cy 0, 192, .inl (fun _ => 0))), (xq54, .inl (cy 0, 192, .inl (fun _ => 0))), (nq55, .inr (9, [.int 0, .int 0, .int 0, .int 5, .int 60, .int 0, .int 0, .int 0, .int 0, .ref xq57, .ref xq58])), (xq57, .inl (cy 0, 192, .inl (fun _ => 0))), (xq58, .inl (cy 0, 192, .inl (fun _ => 0)))]) (rest := [.ref nq59, .int 3, .ref nq46]) (host := "ClickStreet") hx hb hml hown hts hE (c_X9_init l G cy sk H.size nq59) kI_X9_init (by decide +kernel) rfl rfl ⟨(Nat.le_of_ble_eq_true rfl), (Nat.le_of_ble_eq_true rfl)⟩ hP hD hS hA [43] [0, 1, 2, 3, 4, 5, 6, 7, 8, 9, 10, 11, 12, 13, 14, 15, 16, 17, 18, 19, 20, 21, 22, 23, 24, 25, 26, 27, 28, 29, 30, 31, 32, 33, 34, 35, 36, 37, 38, 39, 40, 41, 42] rfl rfl rfl rfl (by decide) rfl rfl hl.1 (Nat.le_of_ble_eq_true rfl) dX10_init_99 ⟨(Nat.le_of_ble_eq_true rfl), (Nat.le_of_ble_eq_true rfl)⟩ (fun H locs haf hS => ?_)
  obtain ⟨xq61, xq62, hP1, hD1⟩ := haf.1
  obtain ⟨hP, hD⟩ := haf.2.1 _ hP1 hD1
  have hP : va_P G classes [(h0, .inr (10, [.ref nq1, .ref nq10, .ref nq31, .ref nq40, .ref nq43, .ref nq46, .int 0, .int 0])), (nq1, .inr (7, [.ref xq3, .ref xq4, .ref xq5, .ref xq6, .ref xq7, .int 0])), (xq3, .inl (cy 0, 192, .inl xf8)), (xq4, .inl (cy 0, 40, .inl (fun _ => 0))), (xq5, .inl (cy 0, 40, .inl (fun _ => 0))), (xq6, .inl (cy 0, 40, .inl (fun _ => 0))), (xq7, .inl (cy 0, 40, .inl (fun _ => 0))), (nq10, .inr (2, [.int 5, .int 9, .int 0, .ref xq12, .ref xq13, .ref xq14, .ref xq15])), (xq12, .inl (cy 0, 5, .inl xf25)), (xq13, .inl (cy 0, 5, .inl (fun _ => 0))), (xq14, .inl (cy 3, 3, .inr (.inr (.inr (.inr xg26))))), (xq15, .inl (cy 0, 5, .inl (fun _ => 0))), (xq16, .inr (1, [.ref xq17, .ref xq18, .int 0])), (xq17, .inl (cy 0, 48, .inl (fun _ => 0))), (xq18, .inl (cy 0, 48, .inl (fun _ => 0))), (xq19, .inr (1, [.ref xq20, .ref xq21, .int 0])), (xq20, .inl (cy 0, 48, .inl (fun _ => 0))), (xq21, .inl (cy 0, 48, .inl (fun _ => 0))), (xq22, .inr (1, [.ref xq23, .ref xq24, .int 0])), (xq23, .inl (cy 0, 48, .inl (fun _ => 0))), (xq24, .inl (cy 0, 48, .inl (fun _ => 0))), (nq31, .inr (3, [.ref xq33, .ref xq34, .ref xq35, .int 0, .ref xq36, .ref xq37, .int 0, .int 0, .int 0])), (xq33, .inl (cy 0, 7, .inl (fun _ => 0))), (xq34, .inl (cy 0, 7, .inl (fun _ => 0))), (xq35, .inl (cy 0, 7, .inl (fun _ => 0))), (xq36, .inr (5, [.ref xq38, .int 0])), (xq38, .inl (cy 0, 7, .inl (fun _ => 0))), (xq37, .inr (5, [.ref xq39, .int 0])), (xq39, .inl (cy 0, 7, .inl (fun _ => 0))), (nq40, .inr (5, [.ref xq42, .int 0])), (xq42, .inl (cy 0, 48, .inl (fun _ => 0))), (nq43, .inr (5, [.ref xq45, .int 0])), (xq45, .inl (cy 0, 24, .inl (fun _ => 0))), (nq46, .inl (cy 4, 8, .inr (.inr (.inr (.inr (va_up (va_up (va_up (fun _ => none) 0 (some nq47)) 1 (some nq51)) 2 (some nq55))))))), (nq47, .inr (9, [.int 0, .int 0, .int 0, .int 5, .int 60, .int 0, .int 0, .int 0, .int 0, .ref xq49, .ref xq50])), (xq49, .inl (cy 0, 192, .inl (fun _ => 0))), (xq50, .inl (cy 0, 192, .inl (fun _ => 0))), (nq51, .inr (9, [.int 0, .int 0, .int 0, .int 5, .int 60, .int 0, .int 0, .int 0, .int 0, .ref xq53, .ref xq54])), (xq53, .inl (cy 0, 192, .inl (fun _ => 0))), (xq54, .inl (cy 0, 192, .inl (fun _ => 0))), (nq55, .inr (9, [.int 0, .int 0, .int 0, .int 5, .int 60, .int 0, .int 0, .int 0, .int 0, .ref xq57, .ref xq58])), (xq57, .inl (cy 0, 192, .inl (fun _ => 0))), (xq58, .inl (cy 0, 192, .inl (fun _ => 0))), (nq59, .inr (9, [.int 0, .int 0, .int 0, .int 5, .int 60, .int 0, .int 0, .int 0, .int 0, .ref xq61, .ref xq62])), (xq61, .inl (cy 0, 192, .inl (fun _ => 0))), (xq62, .inl (cy 0, 192, .inl (fun _ => 0)))] H := hP
  refine va_astq hx hb hE.1 hP hD hS 33 4 43 9 rfl rfl rfl rfl (vinL (by decide)) dX10_init_102 (fun H locs hP hD hS => ?_)
  have hP : va_P G classes [(h0, .inr (10, [.ref nq1, .ref nq10, .ref nq31, .ref nq40, .ref nq43, .ref nq46, .int 0, .int 0])), (nq1, .inr (7, [.ref xq3, .ref xq4, .ref xq5, .ref xq6, .ref xq7, .int 0])), (xq3, .inl (cy 0, 192, .inl xf8)), (xq4, .inl (cy 0, 40, .inl (fun _ => 0))), (xq5, .inl (cy 0, 40, .inl (fun _ => 0))), (xq6, .inl (cy 0, 40, .inl (fun _ => 0))), (xq7, .inl (cy 0, 40, .inl (fun _ => 0))), (nq10, .inr (2, [.int 5, .int 9, .int 0, .ref xq12, .ref xq13, .ref xq14, .ref xq15])), (xq12, .inl (cy 0, 5, .inl xf25)), (xq13, .inl (cy 0, 5, .inl (fun _ => 0))), (xq14, .inl (cy 3, 3, .inr (.inr (.inr (.inr xg26))))), (xq15, .inl (cy 0, 5, .inl (fun _ => 0))), (xq16, .inr (1, [.ref xq17, .ref xq18, .int 0])), (xq17, .inl (cy 0, 48, .inl (fun _ => 0))), (xq18, .inl (cy 0, 48, .inl (fun _ => 0))), (xq19, .inr (1, [.ref xq20, .ref xq21, .int 0])), (xq20, .inl (cy 0, 48, .inl (fun _ => 0))), (xq21, .inl (cy 0, 48, .inl (fun _ => 0))), (xq22, .inr (1, [.ref xq23, .ref xq24, .int 0])), (xq23, .inl (cy 0, 48, .inl (fun _ => 0))), (xq24, .inl (cy 0, 48, .inl (fun _ => 0))), (nq31, .inr (3, [.ref xq33, .ref xq34, .ref xq35, .int 0, .ref xq36, .ref xq37, .int 0, .int 0, .int 0])), (xq33, .inl (cy 0, 7, .inl (fun _ => 0))), (xq34, .inl (cy 0, 7, .inl (fun _ => 0))), (xq35, .inl (cy 0, 7, .inl (fun _ => 0))), (xq36, .inr (5, [.ref xq38, .int 0])), (xq38, .inl (cy 0, 7, .inl (fun _ => 0))), (xq37, .inr (5, [.ref xq39, .int 0])), (xq39, .inl (cy 0, 7, .inl (fun _ => 0))), (nq40, .inr (5, [.ref xq42, .int 0])), (xq42, .inl (cy 0, 48, .inl (fun _ => 0))), (nq43, .inr (5, [.ref xq45, .int 0])), (xq45, .inl (cy 0, 24, .inl (fun _ => 0))), (nq46, .inl (cy 4, 8, .inr (.inr (.inr (.inr (va_up (va_up (va_up (va_up (fun _ => none) 0 (some nq47)) 1 (some nq51)) 2 (some nq55)) 3 (some nq59))))))), (nq47, .inr (9, [.int 0, .int 0, .int 0, .int 5, .int 60, .int 0, .int 0, .int 0, .int 0, .ref xq49, .ref xq50])), (xq49, .inl (cy 0, 192, .inl (fun _ => 0))), (xq50, .inl (cy 0, 192, .inl (fun _ => 0))), (nq51, .inr (9, [.int 0, .int 0, .int 0, .int 5, .int 60, .int 0, .int 0, .int 0, .int 0, .ref xq53, .ref xq54])), (xq53, .inl (cy 0, 192, .inl (fun _ => 0))), (xq54, .inl (cy 0, 192, .inl (fun _ => 0))), (nq55, .inr (9, [.int 0, .int 0, .int 0, .int 5, .int 60, .int 0, .int 0, .int 0, .int 0, .ref xq57, .ref xq58])), (xq57, .inl (cy 0, 192, .inl (fun _ => 0))), (xq58, .inl (cy 0, 192, .inl (fun _ => 0))), (nq59, .inr (9, [.int 0, .int 0, .int 0, .int 5, .int 60, .int 0, .int 0, .int 0, .int 0, .ref xq61, .ref xq62])), (xq61, .inl (cy 0, 192, .inl (fun _ => 0))), (xq62, .inl (cy 0, 192, .inl (fun _ => 0)))] H := hP
  refine lv_iinc (v := 4) (lv' := [(1, .int 4), (0, .ref h0)]) hx hb dX10_init_103 hl (k := 0) rfl (by decide) (by decide) rfl (fun ls hl => ?_)
  refine lv_goto (tgt := 84) hx hb dX10_init_106 (by decide) ?_
  refine lv_iload_n hx hb dX10_init_84 rfl (lv_at hl 0 rfl) ?_
  refine lv_bipush (v := 8) hx hb dX10_init_85 (by decide) ?_
  refine lv_icmp_ge (tgt := 109) hx hb dX10_init_87 (by decide) (fun h9 => absurd h9 (by decide)) (fun _ => ?_)
  refine lv_aload_n hx hb dX10_init_90 rfl (lv_at hl 1 rfl) ?_
  refine va_get (D := G) (ci := 10) (v := .ref nq46) (C := RX10) (T := TX10) (N := 8) hx hb hts inB10 hown hE.1 hP 0 rfl rfl 5 (by decide) (hts _ m_321) (fun _ h9 => h9) rfl dX10_init_91 ?_
  refine lv_iload_n hx hb dX10_init_94 rfl (lv_at hl 0 rfl) ?_
  refine va_new (ci := 9) (fs := [.int 0, .int 0, .int 0, .int 0, .int 0, .int 0, .int 0, .int 0, .int 0, .null, .null]) (C := RX9) (T := TX9) (N := 11) hx hb hts inB9 tyX9 tyX9_ok hown (hts _ m_251) (hts _ m_253) (hts _ m_87) hE.1 hP hD hS hA rfl df9 (Nat.le_of_ble_eq_true rfl) (Nat.le_of_ble_eq_true rfl) dX10_init_95 (fun nq63 H hP hD hS => ?_)
  have hP : va_P G classes [(h0, .inr (10, [.ref nq1, .ref nq10, .ref nq31, .ref nq40, .ref nq43, .ref nq46, .int 0, .int 0])), (nq1, .inr (7, [.ref xq3, .ref xq4, .ref xq5, .ref xq6, .ref xq7, .int 0])), (xq3, .inl (cy 0, 192, .inl xf8)), (xq4, .inl (cy 0, 40, .inl (fun _ => 0))), (xq5, .inl (cy 0, 40, .inl (fun _ => 0))), (xq6, .inl (cy 0, 40, .inl (fun _ => 0))), (xq7, .inl (cy 0, 40, .inl (fun _ => 0))), (nq10, .inr (2, [.int 5, .int 9, .int 0, .ref xq12, .ref xq13, .ref xq14, .ref xq15])), (xq12, .inl (cy 0, 5, .inl xf25)), (xq13, .inl (cy 0, 5, .inl (fun _ => 0))), (xq14, .inl (cy 3, 3, .inr (.inr (.inr (.inr xg26))))), (xq15, .inl (cy 0, 5, .inl (fun _ => 0))), (xq16, .inr (1, [.ref xq17, .ref xq18, .int 0])), (xq17, .inl (cy 0, 48, .inl (fun _ => 0))), (xq18, .inl (cy 0, 48, .inl (fun _ => 0))), (xq19, .inr (1, [.ref xq20, .ref xq21, .int 0])), (xq20, .inl (cy 0, 48, .inl (fun _ => 0))), (xq21, .inl (cy 0, 48, .inl (fun _ => 0))), (xq22, .inr (1, [.ref xq23, .ref xq24, .int 0])), (xq23, .inl (cy 0, 48, .inl (fun _ => 0))), (xq24, .inl (cy 0, 48, .inl (fun _ => 0))), (nq31, .inr (3, [.ref xq33, .ref xq34, .ref xq35, .int 0, .ref xq36, .ref xq37, .int 0, .int 0, .int 0])), (xq33, .inl (cy 0, 7, .inl (fun _ => 0))), (xq34, .inl (cy 0, 7, .inl (fun _ => 0))), (xq35, .inl (cy 0, 7, .inl (fun _ => 0))), (xq36, .inr (5, [.ref xq38, .int 0])), (xq38, .inl (cy 0, 7, .inl (fun _ => 0))), (xq37, .inr (5, [.ref xq39, .int 0])), (xq39, .inl (cy 0, 7, .inl (fun _ => 0))), (nq40, .inr (5, [.ref xq42, .int 0])), (xq42, .inl (cy 0, 48, .inl (fun _ => 0))), (nq43, .inr (5, [.ref xq45, .int 0])), (xq45, .inl (cy 0, 24, .inl (fun _ => 0))), (nq46, .inl (cy 4, 8, .inr (.inr (.inr (.inr (va_up (va_up (va_up (va_up (fun _ => none) 0 (some nq47)) 1 (some nq51)) 2 (some nq55)) 3 (some nq59))))))), (nq47, .inr (9, [.int 0, .int 0, .int 0, .int 5, .int 60, .int 0, .int 0, .int 0, .int 0, .ref xq49, .ref xq50])), (xq49, .inl (cy 0, 192, .inl (fun _ => 0))), (xq50, .inl (cy 0, 192, .inl (fun _ => 0))), (nq51, .inr (9, [.int 0, .int 0, .int 0, .int 5, .int 60, .int 0, .int 0, .int 0, .int 0, .ref xq53, .ref xq54])), (xq53, .inl (cy 0, 192, .inl (fun _ => 0))), (xq54, .inl (cy 0, 192, .inl (fun _ => 0))), (nq55, .inr (9, [.int 0, .int 0, .int 0, .int 5, .int 60, .int 0, .int 0, .int 0, .int 0, .ref xq57, .ref xq58])), (xq57, .inl (cy 0, 192, .inl (fun _ => 0))), (xq58, .inl (cy 0, 192, .inl (fun _ => 0))), (nq59, .inr (9, [.int 0, .int 0, .int 0, .int 5, .int 60, .int 0, .int 0, .int 0, .int 0, .ref xq61, .ref xq62])), (xq61, .inl (cy 0, 192, .inl (fun _ => 0))), (xq62, .inl (cy 0, 192, .inl (fun _ => 0))), (nq63, .inr (9, [.int 0, .int 0, .int 0, .int 0, .int 0, .int 0, .int 0, .int 0, .int 0, .null, .null]))] H := hP
  refine lv_dup hx hb dX10_init_98 rfl ?_
  refine wIN (B := (B_c_X9_init G cy sk (va_A [(nq63, .inr (9, [.int 0, .int 0, .int 0, .int 0, .int 0, .int 0, .int 0, .int 0, .int 0, .null, .null]))] H.size) nq63)) (wr := [(h0, .inr (10, [.ref nq1, .ref nq10, .ref nq31, .ref nq40, .ref nq43, .ref nq46, .int 0, .int 0])), (nq1, .inr (7, [.ref xq3, .ref xq4, .ref xq5, .ref xq6, .ref xq7, .int 0])), (xq3, .inl (cy 0, 192, .inl xf8)), (xq4, .inl (cy 0, 40, .inl (fun _ => 0))), (xq5, .inl (cy 0, 40, .inl (fun _ => 0))), (xq6, .inl (cy 0, 40, .inl (fun _ => 0))), (xq7, .inl (cy 0, 40, .inl (fun _ => 0))), (nq10, .inr (2, [.int 5, .int 9, .int 0, .ref xq12, .ref xq13, .ref xq14, .ref xq15])), (xq12, .inl (cy 0, 5, .inl xf25)), (xq13, .inl (cy 0, 5, .inl (fun _ => 0))), (xq14, .inl (cy 3, 3, .inr (.inr (.inr (.inr xg26))))), (xq15, .inl (cy 0, 5, .inl (fun _ => 0))), (xq16, .inr (1, [.ref xq17, .ref xq18, .int 0])), (xq17, .inl (cy 0, 48, .inl (fun _ => 0))), (xq18, .inl (cy 0, 48, .inl (fun _ => 0))), (xq19, .inr (1, [.ref xq20, .ref xq21, .int 0])), (xq20, .inl (cy 0, 48, .inl (fun _ => 0))), (xq21, .inl (cy 0, 48, .inl (fun _ => 0))), (xq22, .inr (1, [.ref xq23, .ref xq24, .int 0])), (xq23, .inl (cy 0, 48, .inl (fun _ => 0))), (xq24, .inl (cy 0, 48, .inl (fun _ => 0))), (nq31, .inr (3, [.ref xq33, .ref xq34, .ref xq35, .int 0, .ref xq36, .ref xq37, .int 0, .int 0, .int 0])), (xq33, .inl (cy 0, 7, .inl (fun _ => 0))), (xq34, .inl (cy 0, 7, .inl (fun _ => 0))), (xq35, .inl (cy 0, 7, .inl (fun _ => 0))), (xq36, .inr (5, [.ref xq38, .int 0])), (xq38, .inl (cy 0, 7, .inl (fun _ => 0))), (xq37, .inr (5, [.ref xq39, .int 0])), (xq39, .inl (cy 0, 7, .inl (fun _ => 0))), (nq40, .inr (5, [.ref xq42, .int 0])), (xq42, .inl (cy 0, 48, .inl (fun _ => 0))), (nq43, .inr (5, [.ref xq45, .int 0])), (xq45, .inl (cy 0, 24, .inl (fun _ => 0))), (nq46, .inl (cy 4, 8, .inr (.inr (.inr (.inr (va_up (va_up (va_up (va_up (fun _ => none) 0 (some nq47)) 1 (some nq51)) 2 (some nq55)) 3 (some nq59))))))), (nq47, .inr (9, [.int 0, .int 0, .int 0, .int 5, .int 60, .int 0, .int 0, .int 0, .int 0, .ref xq49, .ref xq50])), (xq49, .inl (cy 0, 192, .inl (fun _ => 0))), (xq50, .inl (cy 0, 192, .inl (fun _ => 0))), (nq51, .inr (9, [.int 0, .int 0, .int 0, .int 5, .int 60, .int 0, .int 0, .int 0, .int 0, .ref xq53, .ref xq54])), (xq53, .inl (cy 0, 192, .inl (fun _ => 0))), (xq54, .inl (cy 0, 192, .inl (fun _ => 0))), (nq55, .inr (9, [.int 0, .int 0, .int 0, .int 5, .int 60, .int 0, .int 0, .int 0, .int 0, .ref xq57, .ref xq58])), (xq57, .inl (cy 0, 192, .inl (fun _ => 0))), (xq58, .inl (cy 0, 192, .inl (fun _ => 0))), (nq59, .inr (9, [.int 0, .int 0, .int 0, .int 5, .int 60, .int 0, .int 0, .int 0, .int 0, .ref xq61, .ref xq62])), (xq61, .inl (cy 0, 192, .inl (fun _ => 0))), (xq62, .inl (cy 0, 192, .inl (fun _ => 0)))]) (rest := [.ref nq63, .int 4, .ref nq46]) (host := "ClickStreet") hx hb hml hown hts hE (c_X9_init l G cy sk H.size nq63) kI_X9_init (by decide +kernel) rfl rfl ⟨(Nat.le_of_ble_eq_true rfl), (Nat.le_of_ble_eq_true rfl)⟩ hP hD hS hA [46] [0, 1, 2, 3, 4, 5, 6, 7, 8, 9, 10, 11, 12, 13, 14, 15, 16, 17, 18, 19, 20, 21, 22, 23, 24, 25, 26, 27, 28, 29, 30, 31, 32, 33, 34, 35, 36, 37, 38, 39, 40, 41, 42, 43, 44, 45] rfl rfl rfl rfl (by decide) rfl rfl hl.1 (Nat.le_of_ble_eq_true rfl) dX10_init_99 ⟨(Nat.le_of_ble_eq_true rfl), (Nat.le_of_ble_eq_true rfl)⟩ (fun H locs haf hS => ?_)
  obtain ⟨xq65, xq66, hP1, hD1⟩ := haf.1
  obtain ⟨hP, hD⟩ := haf.2.1 _ hP1 hD1
  have hP : va_P G classes [(h0, .inr (10, [.ref nq1, .ref nq10, .ref nq31, .ref nq40, .ref nq43, .ref nq46, .int 0, .int 0])), (nq1, .inr (7, [.ref xq3, .ref xq4, .ref xq5, .ref xq6, .ref xq7, .int 0])), (xq3, .inl (cy 0, 192, .inl xf8)), (xq4, .inl (cy 0, 40, .inl (fun _ => 0))), (xq5, .inl (cy 0, 40, .inl (fun _ => 0))), (xq6, .inl (cy 0, 40, .inl (fun _ => 0))), (xq7, .inl (cy 0, 40, .inl (fun _ => 0))), (nq10, .inr (2, [.int 5, .int 9, .int 0, .ref xq12, .ref xq13, .ref xq14, .ref xq15])), (xq12, .inl (cy 0, 5, .inl xf25)), (xq13, .inl (cy 0, 5, .inl (fun _ => 0))), (xq14, .inl (cy 3, 3, .inr (.inr (.inr (.inr xg26))))), (xq15, .inl (cy 0, 5, .inl (fun _ => 0))), (xq16, .inr (1, [.ref xq17, .ref xq18, .int 0])), (xq17, .inl (cy 0, 48, .inl (fun _ => 0))), (xq18, .inl (cy 0, 48, .inl (fun _ => 0))), (xq19, .inr (1, [.ref xq20, .ref xq21, .int 0])), (xq20, .inl (cy 0, 48, .inl (fun _ => 0))), (xq21, .inl (cy 0, 48, .inl (fun _ => 0))), (xq22, .inr (1, [.ref xq23, .ref xq24, .int 0])), (xq23, .inl (cy 0, 48, .inl (fun _ => 0))), (xq24, .inl (cy 0, 48, .inl (fun _ => 0))), (nq31, .inr (3, [.ref xq33, .ref xq34, .ref xq35, .int 0, .ref xq36, .ref xq37, .int 0, .int 0, .int 0])), (xq33, .inl (cy 0, 7, .inl (fun _ => 0))), (xq34, .inl (cy 0, 7, .inl (fun _ => 0))), (xq35, .inl (cy 0, 7, .inl (fun _ => 0))), (xq36, .inr (5, [.ref xq38, .int 0])), (xq38, .inl (cy 0, 7, .inl (fun _ => 0))), (xq37, .inr (5, [.ref xq39, .int 0])), (xq39, .inl (cy 0, 7, .inl (fun _ => 0))), (nq40, .inr (5, [.ref xq42, .int 0])), (xq42, .inl (cy 0, 48, .inl (fun _ => 0))), (nq43, .inr (5, [.ref xq45, .int 0])), (xq45, .inl (cy 0, 24, .inl (fun _ => 0))), (nq46, .inl (cy 4, 8, .inr (.inr (.inr (.inr (va_up (va_up (va_up (va_up (fun _ => none) 0 (some nq47)) 1 (some nq51)) 2 (some nq55)) 3 (some nq59))))))), (nq47, .inr (9, [.int 0, .int 0, .int 0, .int 5, .int 60, .int 0, .int 0, .int 0, .int 0, .ref xq49, .ref xq50])), (xq49, .inl (cy 0, 192, .inl (fun _ => 0))), (xq50, .inl (cy 0, 192, .inl (fun _ => 0))), (nq51, .inr (9, [.int 0, .int 0, .int 0, .int 5, .int 60, .int 0, .int 0, .int 0, .int 0, .ref xq53, .ref xq54])), (xq53, .inl (cy 0, 192, .inl (fun _ => 0))), (xq54, .inl (cy 0, 192, .inl (fun _ => 0))), (nq55, .inr (9, [.int 0, .int 0, .int 0, .int 5, .int 60, .int 0, .int 0, .int 0, .int 0, .ref xq57, .ref xq58])), (xq57, .inl (cy 0, 192, .inl (fun _ => 0))), (xq58, .inl (cy 0, 192, .inl (fun _ => 0))), (nq59, .inr (9, [.int 0, .int 0, .int 0, .int 5, .int 60, .int 0, .int 0, .int 0, .int 0, .ref xq61, .ref xq62])), (xq61, .inl (cy 0, 192, .inl (fun _ => 0))), (xq62, .inl (cy 0, 192, .inl (fun _ => 0))), (nq63, .inr (9, [.int 0, .int 0, .int 0, .int 5, .int 60, .int 0, .int 0, .int 0, .int 0, .ref xq65, .ref xq66])), (xq65, .inl (cy 0, 192, .inl (fun _ => 0))), (xq66, .inl (cy 0, 192, .inl (fun _ => 0)))] H := hP
  refine va_astq hx hb hE.1 hP hD hS 33 4 46 9 rfl rfl rfl rfl (vinL (by decide)) dX10_init_102 (fun H locs hP hD hS => ?_)
  have hP : va_P G classes [(h0, .inr (10, [.ref nq1, .ref nq10, .ref nq31, .ref nq40, .ref nq43, .ref nq46, .int 0, .int 0])), (nq1, .inr (7, [.ref xq3, .ref xq4, .ref xq5, .ref xq6, .ref xq7, .int 0])), (xq3, .inl (cy 0, 192, .inl xf8)), (xq4, .inl (cy 0, 40, .inl (fun _ => 0))), (xq5, .inl (cy 0, 40, .inl (fun _ => 0))), (xq6, .inl (cy 0, 40, .inl (fun _ => 0))), (xq7, .inl (cy 0, 40, .inl (fun _ => 0))), (nq10, .inr (2, [.int 5, .int 9, .int 0, .ref xq12, .ref xq13, .ref xq14, .ref xq15])), (xq12, .inl (cy 0, 5, .inl xf25)), (xq13, .inl (cy 0, 5, .inl (fun _ => 0))), (xq14, .inl (cy 3, 3, .inr (.inr (.inr (.inr xg26))))), (xq15, .inl (cy 0, 5, .inl (fun _ => 0))), (xq16, .inr (1, [.ref xq17, .ref xq18, .int 0])), (xq17, .inl (cy 0, 48, .inl (fun _ => 0))), (xq18, .inl (cy 0, 48, .inl (fun _ => 0))), (xq19, .inr (1, [.ref xq20, .ref xq21, .int 0])), (xq20, .inl (cy 0, 48, .inl (fun _ => 0))), (xq21, .inl (cy 0, 48, .inl (fun _ => 0))), (xq22, .inr (1, [.ref xq23, .ref xq24, .int 0])), (xq23, .inl (cy 0, 48, .inl (fun _ => 0))), (xq24, .inl (cy 0, 48, .inl (fun _ => 0))), (nq31, .inr (3, [.ref xq33, .ref xq34, .ref xq35, .int 0, .ref xq36, .ref xq37, .int 0, .int 0, .int 0])), (xq33, .inl (cy 0, 7, .inl (fun _ => 0))), (xq34, .inl (cy 0, 7, .inl (fun _ => 0))), (xq35, .inl (cy 0, 7, .inl (fun _ => 0))), (xq36, .inr (5, [.ref xq38, .int 0])), (xq38, .inl (cy 0, 7, .inl (fun _ => 0))), (xq37, .inr (5, [.ref xq39, .int 0])), (xq39, .inl (cy 0, 7, .inl (fun _ => 0))), (nq40, .inr (5, [.ref xq42, .int 0])), (xq42, .inl (cy 0, 48, .inl (fun _ => 0))), (nq43, .inr (5, [.ref xq45, .int 0])), (xq45, .inl (cy 0, 24, .inl (fun _ => 0))), (nq46, .inl (cy 4, 8, .inr (.inr (.inr (.inr (va_up (va_up (va_up (va_up (va_up (fun _ => none) 0 (some nq47)) 1 (some nq51)) 2 (some nq55)) 3 (some nq59)) 4 (some nq63))))))), (nq47, .inr (9, [.int 0, .int 0, .int 0, .int 5, .int 60, .int 0, .int 0, .int 0, .int 0, .ref xq49, .ref xq50])), (xq49, .inl (cy 0, 192, .inl (fun _ => 0))), (xq50, .inl (cy 0, 192, .inl (fun _ => 0))), (nq51, .inr (9, [.int 0, .int 0, .int 0, .int 5, .int 60, .int 0, .int 0, .int 0, .int 0, .ref xq53, .ref xq54])), (xq53, .inl (cy 0, 192, .inl (fun _ => 0))), (xq54, .inl (cy 0, 192, .inl (fun _ => 0))), (nq55, .inr (9, [.int 0, .int 0, .int 0, .int 5, .int 60, .int 0, .int 0, .int 0, .int 0, .ref xq57, .ref xq58])), (xq57, .inl (cy 0, 192, .inl (fun _ => 0))), (xq58, .inl (cy 0, 192, .inl (fun _ => 0))), (nq59, .inr (9, [.int 0, .int 0, .int 0, .int 5, .int 60, .int 0, .int 0, .int 0, .int 0, .ref xq61, .ref xq62])), (xq61, .inl (cy 0, 192, .inl (fun _ => 0))), (xq62, .inl (cy 0, 192, .inl (fun _ => 0))), (nq63, .inr (9, [.int 0, .int 0, .int 0, .int 5, .int 60, .int 0, .int 0, .int 0, .int 0, .ref xq65, .ref xq66])), (xq65, .inl (cy 0, 192, .inl (fun _ => 0))), (xq66, .inl (cy 0, 192, .inl (fun _ => 0)))] H := hP
  refine lv_iinc (v := 5) (lv' := [(1, .int 5), (0, .ref h0)]) hx hb dX10_init_103 hl (k := 0) rfl (by decide) (by decide) rfl (fun ls hl => ?_)
  refine lv_goto (tgt := 84) hx hb dX10_init_106 (by decide) ?_
  refine lv_iload_n hx hb dX10_init_84 rfl (lv_at hl 0 rfl) ?_
  refine lv_bipush (v := 8) hx hb dX10_init_85 (by decide) ?_
  refine lv_icmp_ge (tgt := 109) hx hb dX10_init_87 (by decide) (fun h9 => absurd h9 (by decide)) (fun _ => ?_)
  refine lv_aload_n hx hb dX10_init_90 rfl (lv_at hl 1 rfl) ?_
  refine va_get (D := G) (ci := 10) (v := .ref nq46) (C := RX10) (T := TX10) (N := 8) hx hb hts inB10 hown hE.1 hP 0 rfl rfl 5 (by decide) (hts _ m_321) (fun _ h9 => h9) rfl dX10_init_91 ?_
  refine lv_iload_n hx hb dX10_init_94 rfl (lv_at hl 0 rfl) ?_
  refine va_new (ci := 9) (fs := [.int 0, .int 0, .int 0, .int 0, .int 0, .int 0, .int 0, .int 0, .int 0, .null, .null]) (C := RX9) (T := TX9) (N := 11) hx hb hts inB9 tyX9 tyX9_ok hown (hts _ m_251) (hts _ m_253) (hts _ m_87) hE.1 hP hD hS hA rfl df9 (Nat.le_of_ble_eq_true rfl) (Nat.le_of_ble_eq_true rfl) dX10_init_95 (fun nq67 H hP hD hS => ?_)
  have hP : va_P G classes [(h0, .inr (10, [.ref nq1, .ref nq10, .ref nq31, .ref nq40, .ref nq43, .ref nq46, .int 0, .int 0])), (nq1, .inr (7, [.ref xq3, .ref xq4, .ref xq5, .ref xq6, .ref xq7, .int 0])), (xq3, .inl (cy 0, 192, .inl xf8)), (xq4, .inl (cy 0, 40, .inl (fun _ => 0))), (xq5, .inl (cy 0, 40, .inl (fun _ => 0))), (xq6, .inl (cy 0, 40, .inl (fun _ => 0))), (xq7, .inl (cy 0, 40, .inl (fun _ => 0))), (nq10, .inr (2, [.int 5, .int 9, .int 0, .ref xq12, .ref xq13, .ref xq14, .ref xq15])), (xq12, .inl (cy 0, 5, .inl xf25)), (xq13, .inl (cy 0, 5, .inl (fun _ => 0))), (xq14, .inl (cy 3, 3, .inr (.inr (.inr (.inr xg26))))), (xq15, .inl (cy 0, 5, .inl (fun _ => 0))), (xq16, .inr (1, [.ref xq17, .ref xq18, .int 0])), (xq17, .inl (cy 0, 48, .inl (fun _ => 0))), (xq18, .inl (cy 0, 48, .inl (fun _ => 0))), (xq19, .inr (1, [.ref xq20, .ref xq21, .int 0])), (xq20, .inl (cy 0, 48, .inl (fun _ => 0))), (xq21, .inl (cy 0, 48, .inl (fun _ => 0))), (xq22, .inr (1, [.ref xq23, .ref xq24, .int 0])), (xq23, .inl (cy 0, 48, .inl (fun _ => 0))), (xq24, .inl (cy 0, 48, .inl (fun _ => 0))), (nq31, .inr (3, [.ref xq33, .ref xq34, .ref xq35, .int 0, .ref xq36, .ref xq37, .int 0, .int 0, .int 0])), (xq33, .inl (cy 0, 7, .inl (fun _ => 0))), (xq34, .inl (cy 0, 7, .inl (fun _ => 0))), (xq35, .inl (cy 0, 7, .inl (fun _ => 0))), (xq36, .inr (5, [.ref xq38, .int 0])), (xq38, .inl (cy 0, 7, .inl (fun _ => 0))), (xq37, .inr (5, [.ref xq39, .int 0])), (xq39, .inl (cy 0, 7, .inl (fun _ => 0))), (nq40, .inr (5, [.ref xq42, .int 0])), (xq42, .inl (cy 0, 48, .inl (fun _ => 0))), (nq43, .inr (5, [.ref xq45, .int 0])), (xq45, .inl (cy 0, 24, .inl (fun _ => 0))), (nq46, .inl (cy 4, 8, .inr (.inr (.inr (.inr (va_up (va_up (va_up (va_up (va_up (fun _ => none) 0 (some nq47)) 1 (some nq51)) 2 (some nq55)) 3 (some nq59)) 4 (some nq63))))))), (nq47, .inr (9, [.int 0, .int 0, .int 0, .int 5, .int 60, .int 0, .int 0, .int 0, .int 0, .ref xq49, .ref xq50])), (xq49, .inl (cy 0, 192, .inl (fun _ => 0))), (xq50, .inl (cy 0, 192, .inl (fun _ => 0))), (nq51, .inr (9, [.int 0, .int 0, .int 0, .int 5, .int 60, .int 0, .int 0, .int 0, .int 0, .ref xq53, .ref xq54])), (xq53, .inl (cy 0, 192, .inl (fun _ => 0))), (xq54, .inl (cy 0, 192, .inl (fun _ => 0))), (nq55, .inr (9, [.int 0, .int 0, .int 0, .int 5, .int 60, .int 0, .int 0, .int 0, .int 0, .ref xq57, .ref xq58])), (xq57, .inl (cy 0, 192, .inl (fun _ => 0))), (xq58, .inl (cy 0, 192, .inl (fun _ => 0))), (nq59, .inr (9, [.int 0, .int 0, .int 0, .int 5, .int 60, .int 0, .int 0, .int 0, .int 0, .ref xq61, .ref xq62])), (xq61, .inl (cy 0, 192, .inl (fun _ => 0))), (xq62, .inl (cy 0, 192, .inl (fun _ => 0))), (nq63, .inr (9, [.int 0, .int 0, .int 0, .int 5, .int 60, .int 0, .int 0, .int 0, .int 0, .ref xq65, .ref xq66])), (xq65, .inl (cy 0, 192, .inl (fun _ => 0))), (xq66, .inl (cy 0, 192, .inl (fun _ => 0))), (nq67, .inr (9, [.int 0, .int 0, .int 0, .int 0, .int 0, .int 0, .int 0, .int 0, .int 0, .null, .null]))] H := hP
  refine lv_dup hx hb dX10_init_98 rfl ?_
  refine wIN (B := (B_c_X9_init G cy sk (va_A [(nq67, .inr (9, [.int 0, .int 0, .int 0, .int 0, .int 0, .int 0, .int 0, .int 0, .int 0, .null, .null]))] H.size) nq67)) (wr := [(h0, .inr (10, [.ref nq1, .ref nq10, .ref nq31, .ref nq40, .ref nq43, .ref nq46, .int 0, .int 0])), (nq1, .inr (7, [.ref xq3, .ref xq4, .ref xq5, .ref xq6, .ref xq7, .int 0])), (xq3, .inl (cy 0, 192, .inl xf8)), (xq4, .inl (cy 0, 40, .inl (fun _ => 0))), (xq5, .inl (cy 0, 40, .inl (fun _ => 0))), (xq6, .inl (cy 0, 40, .inl (fun _ => 0))), (xq7, .inl (cy 0, 40, .inl (fun _ => 0))), (nq10, .inr (2, [.int 5, .int 9, .int 0, .ref xq12, .ref xq13, .ref xq14, .ref xq15])), (xq12, .inl (cy 0, 5, .inl xf25)), (xq13, .inl (cy 0, 5, .inl (fun _ => 0))), (xq14, .inl (cy 3, 3, .inr (.inr (.inr (.inr xg26))))), (xq15, .inl (cy 0, 5, .inl (fun _ => 0))), (xq16, .inr (1, [.ref xq17, .ref xq18, .int 0])), (xq17, .inl (cy 0, 48, .inl (fun _ => 0))), (xq18, .inl (cy 0, 48, .inl (fun _ => 0))), (xq19, .inr (1, [.ref xq20, .ref xq21, .int 0])), (xq20, .inl (cy 0, 48, .inl (fun _ => 0))), (xq21, .inl (cy 0, 48, .inl (fun _ => 0))), (xq22, .inr (1, [.ref xq23, .ref xq24, .int 0])), (xq23, .inl (cy 0, 48, .inl (fun _ => 0))), (xq24, .inl (cy 0, 48, .inl (fun _ => 0))), (nq31, .inr (3, [.ref xq33, .ref xq34, .ref xq35, .int 0, .ref xq36, .ref xq37, .int 0, .int 0, .int 0])), (xq33, .inl (cy 0, 7, .inl (fun _ => 0))), (xq34, .inl (cy 0, 7, .inl (fun _ => 0))), (xq35, .inl (cy 0, 7, .inl (fun _ => 0))), (xq36, .inr (5, [.ref xq38, .int 0])), (xq38, .inl (cy 0, 7, .inl (fun _ => 0))), (xq37, .inr (5, [.ref xq39, .int 0])), (xq39, .inl (cy 0, 7, .inl (fun _ => 0))), (nq40, .inr (5, [.ref xq42, .int 0])), (xq42, .inl (cy 0, 48, .inl (fun _ => 0))), (nq43, .inr (5, [.ref xq45, .int 0])), (xq45, .inl (cy 0, 24, .inl (fun _ => 0))), (nq46, .inl (cy 4, 8, .inr (.inr (.inr (.inr (va_up (va_up (va_up (va_up (va_up (fun _ => none) 0 (some nq47)) 1 (some nq51)) 2 (some nq55)) 3 (some nq59)) 4 (some nq63))))))), (nq47, .inr (9, [.int 0, .int 0, .int 0, .int 5, .int 60, .int 0, .int 0, .int 0, .int 0, .ref xq49, .ref xq50])), (xq49, .inl (cy 0, 192, .inl (fun _ => 0))), (xq50, .inl (cy 0, 192, .inl (fun _ => 0))), (nq51, .inr (9, [.int 0, .int 0, .int 0, .int 5, .int 60, .int 0, .int 0, .int 0, .int 0, .ref xq53, .ref xq54])), (xq53, .inl (cy 0, 192, .inl (fun _ => 0))), (xq54, .inl (cy 0, 192, .inl (fun _ => 0))), (nq55, .inr (9, [.int 0, .int 0, .int 0, .int 5, .int 60, .int 0, .int 0, .int 0, .int 0, .ref xq57, .ref xq58])), (xq57, .inl (cy 0, 192, .inl (fun _ => 0))), (xq58, .inl (cy 0, 192, .inl (fun _ => 0))), (nq59, .inr (9, [.int 0, .int 0, .int 0, .int 5, .int 60, .int 0, .int 0, .int 0, .int 0, .ref xq61, .ref xq62])), (xq61, .inl (cy 0, 192, .inl (fun _ => 0))), (xq62, .inl (cy 0, 192, .inl (fun _ => 0))), (nq63, .inr (9, [.int 0, .int 0, .int 0, .int 5, .int 60, .int 0, .int 0, .int 0, .int 0, .ref xq65, .ref xq66])), (xq65, .inl (cy 0, 192, .inl (fun _ => 0))), (xq66, .inl (cy 0, 192, .inl (fun _ => 0)))]) (rest := [.ref nq67, .int 5, .ref nq46]) (host := "ClickStreet") hx hb hml hown hts hE (c_X9_init l G cy sk H.size nq67) kI_X9_init (by decide +kernel) rfl rfl ⟨(Nat.le_of_ble_eq_true rfl), (Nat.le_of_ble_eq_true rfl)⟩ hP hD hS hA [49] [0, 1, 2, 3, 4, 5, 6, 7, 8, 9, 10, 11, 12, 13, 14, 15, 16, 17, 18, 19, 20, 21, 22, 23, 24, 25, 26, 27, 28, 29, 30, 31, 32, 33, 34, 35, 36, 37, 38, 39, 40, 41, 42, 43, 44, 45, 46, 47, 48] rfl rfl rfl rfl (by decide) rfl rfl hl.1 (Nat.le_of_ble_eq_true rfl) dX10_init_99 ⟨(Nat.le_of_ble_eq_true rfl), (Nat.le_of_ble_eq_true rfl)⟩ (fun H locs haf hS => ?_)
  obtain ⟨xq69, xq70, hP1, hD1⟩ := haf.1
  obtain ⟨hP, hD⟩ := haf.2.1 _ hP1 hD1
  have hP : va_P G classes [(h0, .inr (10, [.ref nq1, .ref nq10, .ref nq31, .ref nq40, .ref nq43, .ref nq46, .int 0, .int 0])), (nq1, .inr (7, [.ref xq3, .ref xq4, .ref xq5, .ref xq6, .ref xq7, .int 0])), (xq3, .inl (cy 0, 192, .inl xf8)), (xq4, .inl (cy 0, 40, .inl (fun _ => 0))), (xq5, .inl (cy 0, 40, .inl (fun _ => 0))), (xq6, .inl (cy 0, 40, .inl (fun _ => 0))), (xq7, .inl (cy 0, 40, .inl (fun _ => 0))), (nq10, .inr (2, [.int 5, .int 9, .int 0, .ref xq12, .ref xq13, .ref xq14, .ref xq15])), (xq12, .inl (cy 0, 5, .inl xf25)), (xq13, .inl (cy 0, 5, .inl (fun _ => 0))), (xq14, .inl (cy 3, 3, .inr (.inr (.inr (.inr xg26))))), (xq15, .inl (cy 0, 5, .inl (fun _ => 0))), (xq16, .inr (1, [.ref xq17, .ref xq18, .int 0])), (xq17, .inl (cy 0, 48, .inl (fun _ => 0))), (xq18, .inl (cy 0, 48, .inl (fun _ => 0))), (xq19, .inr (1, [.ref xq20, .ref xq21, .int 0])), (xq20, .inl (cy 0, 48, .inl (fun _ => 0))), (xq21, .inl (cy 0, 48, .inl (fun _ => 0))), (xq22, .inr (1, [.ref xq23, .ref xq24, .int 0])), (xq23, .inl (cy 0, 48, .inl (fun _ => 0))), (xq24, .inl (cy 0, 48, .inl (fun _ => 0))), (nq31, .inr (3, [.ref xq33, .ref xq34, .ref xq35, .int 0, .ref xq36, .ref xq37, .int 0, .int 0, .int 0])), (xq33, .inl (cy 0, 7, .inl (fun _ => 0))), (xq34, .inl (cy 0, 7, .inl (fun _ => 0))), (xq35, .inl (cy 0, 7, .inl (fun _ => 0))), (xq36, .inr (5, [.ref xq38, .int 0])), (xq38, .inl (cy 0, 7, .inl (fun _ => 0))), (xq37, .inr (5, [.ref xq39, .int 0])), (xq39, .inl (cy 0, 7, .inl (fun _ => 0))), (nq40, .inr (5, [.ref xq42, .int 0])), (xq42, .inl (cy 0, 48, .inl (fun _ => 0))), (nq43, .inr (5, [.ref xq45, .int 0])), (xq45, .inl (cy 0, 24, .inl (fun _ => 0))), (nq46, .inl (cy 4, 8, .inr (.inr (.inr (.inr (va_up (va_up (va_up (va_up (va_up (fun _ => none) 0 (some nq47)) 1 (some nq51)) 2 (some nq55)) 3 (some nq59)) 4 (some nq63))))))), (nq47, .inr (9, [.int 0, .int 0, .int 0, .int 5, .int 60, .int 0, .int 0, .int 0, .int 0, .ref xq49, .ref xq50])), (xq49, .inl (cy 0, 192, .inl (fun _ => 0))), (xq50, .inl (cy 0, 192, .inl (fun _ => 0))), (nq51, .inr (9, [.int 0, .int 0, .int 0, .int 5, .int 60, .int 0, .int 0, .int 0, .int 0, .ref xq53, .ref xq54])), (xq53, .inl (cy 0, 192, .inl (fun _ => 0))), (xq54, .inl (cy 0, 192, .inl (fun _ => 0))), (nq55, .inr (9, [.int 0, .int 0, .int 0, .int 5, .int 60, .int 0, .int 0, .int 0, .int 0, .ref xq57, .ref xq58])), (xq57, .inl (cy 0, 192, .inl (fun _ => 0))), (xq58, .inl (cy 0, 192, .inl (fun _ => 0))), (nq59, .inr (9, [.int 0, .int 0, .int 0, .int 5, .int 60, .int 0, .int 0, .int 0, .int 0, .ref xq61, .ref xq62])), (xq61, .inl (cy 0, 192, .inl (fun _ => 0))), (xq62, .inl (cy 0, 192, .inl (fun _ => 0))), (nq63, .inr (9, [.int 0, .int 0, .int 0, .int 5, .int 60, .int 0, .int 0, .int 0, .int 0, .ref xq65, .ref xq66])), (xq65, .inl (cy 0, 192, .inl (fun _ => 0))), (xq66, .inl (cy 0, 192, .inl (fun _ => 0))), (nq67, .inr (9, [.int 0, .int 0, .int 0, .int 5, .int 60, .int 0, .int 0, .int 0, .int 0, .ref xq69, .ref xq70])), (xq69, .inl (cy 0, 192, .inl (fun _ => 0))), (xq70, .inl (cy 0, 192, .inl (fun _ => 0)))] H := hP
  refine va_astq hx hb hE.1 hP hD hS 33 4 49 9 rfl rfl rfl rfl (vinL (by decide)) dX10_init_102 (fun H locs hP hD hS => ?_)
  have hP : va_P G classes [(h0, .inr (10, [.ref nq1, .ref nq10, .ref nq31, .ref nq40, .ref nq43, .ref nq46, .int 0, .int 0])), (nq1, .inr (7, [.ref xq3, .ref xq4, .ref xq5, .ref xq6, .ref xq7, .int 0])), (xq3, .inl (cy 0, 192, .inl xf8)), (xq4, .inl (cy 0, 40, .inl (fun _ => 0))), (xq5, .inl (cy 0, 40, .inl (fun _ => 0))), (xq6, .inl (cy 0, 40, .inl (fun _ => 0))), (xq7, .inl (cy 0, 40, .inl (fun _ => 0))), (nq10, .inr (2, [.int 5, .int 9, .int 0, .ref xq12, .ref xq13, .ref xq14, .ref xq15])), (xq12, .inl (cy 0, 5, .inl xf25)), (xq13, .inl (cy 0, 5, .inl (fun _ => 0))), (xq14, .inl (cy 3, 3, .inr (.inr (.inr (.inr xg26))))), (xq15, .inl (cy 0, 5, .inl (fun _ => 0))), (xq16, .inr (1, [.ref xq17, .ref xq18, .int 0])), (xq17, .inl (cy 0, 48, .inl (fun _ => 0))), (xq18, .inl (cy 0, 48, .inl (fun _ => 0))), (xq19, .inr (1, [.ref xq20, .ref xq21, .int 0])), (xq20, .inl (cy 0, 48, .inl (fun _ => 0))), (xq21, .inl (cy 0, 48, .inl (fun _ => 0))), (xq22, .inr (1, [.ref xq23, .ref xq24, .int 0])), (xq23, .inl (cy 0, 48, .inl (fun _ => 0))), (xq24, .inl (cy 0, 48, .inl (fun _ => 0))), (nq31, .inr (3, [.ref xq33, .ref xq34, .ref xq35, .int 0, .ref xq36, .ref xq37, .int 0, .int 0, .int 0])), (xq33, .inl (cy 0, 7, .inl (fun _ => 0))), (xq34, .inl (cy 0, 7, .inl (fun _ => 0))), (xq35, .inl (cy 0, 7, .inl (fun _ => 0))), (xq36, .inr (5, [.ref xq38, .int 0])), (xq38, .inl (cy 0, 7, .inl (fun _ => 0))), (xq37, .inr (5, [.ref xq39, .int 0])), (xq39, .inl (cy 0, 7, .inl (fun _ => 0))), (nq40, .inr (5, [.ref xq42, .int 0])), (xq42, .inl (cy 0, 48, .inl (fun _ => 0))), (nq43, .inr (5, [.ref xq45, .int 0])), (xq45, .inl (cy 0, 24, .inl (fun _ => 0))), (nq46, .inl (cy 4, 8, .inr (.inr (.inr (.inr (va_up (va_up (va_up (va_up (va_up (va_up (fun _ => none) 0 (some nq47)) 1 (some nq51)) 2 (some nq55)) 3 (some nq59)) 4 (some nq63)) 5 (some nq67))))))), (nq47, .inr (9, [.int 0, .int 0, .int 0, .int 5, .int 60, .int 0, .int 0, .int 0, .int 0, .ref xq49, .ref xq50])), (xq49, .inl (cy 0, 192, .inl (fun _ => 0))), (xq50, .inl (cy 0, 192, .inl (fun _ => 0))), (nq51, .inr (9, [.int 0, .int 0, .int 0, .int 5, .int 60, .int 0, .int 0, .int 0, .int 0, .ref xq53, .ref xq54])), (xq53, .inl (cy 0, 192, .inl (fun _ => 0))), (xq54, .inl (cy 0, 192, .inl (fun _ => 0))), (nq55, .inr (9, [.int 0, .int 0, .int 0, .int 5, .int 60, .int 0, .int 0, .int 0, .int 0, .ref xq57, .ref xq58])), (xq57, .inl (cy 0, 192, .inl (fun _ => 0))), (xq58, .inl (cy 0, 192, .inl (fun _ => 0))), (nq59, .inr (9, [.int 0, .int 0, .int 0, .int 5, .int 60, .int 0, .int 0, .int 0, .int 0, .ref xq61, .ref xq62])), (xq61, .inl (cy 0, 192, .inl (fun _ => 0))), (xq62, .inl (cy 0, 192, .inl (fun _ => 0))), (nq63, .inr (9, [.int 0, .int 0, .int 0, .int 5, .int 60, .int 0, .int 0, .int 0, .int 0, .ref xq65, .ref xq66])), (xq65, .inl (cy 0, 192, .inl (fun _ => 0))), (xq66, .inl (cy 0, 192, .inl (fun _ => 0))), (nq67, .inr (9, [.int 0, .int 0, .int 0, .int 5, .int 60, .int 0, .int 0, .int 0, .int 0, .ref xq69, .ref xq70])), (xq69, .inl (cy 0, 192, .inl (fun _ => 0))), (xq70, .inl (cy 0, 192, .inl (fun _ => 0)))] H := hP
  refine lv_iinc (v := 6) (lv' := [(1, .int 6), (0, .ref h0)]) hx hb dX10_init_103 hl (k := 0) rfl (by decide) (by decide) rfl (fun ls hl => ?_)
  refine lv_goto (tgt := 84) hx hb dX10_init_106 (by decide) ?_
  refine lv_iload_n hx hb dX10_init_84 rfl (lv_at hl 0 rfl) ?_
  refine lv_bipush (v := 8) hx hb dX10_init_85 (by decide) ?_
  refine lv_icmp_ge (tgt := 109) hx hb dX10_init_87 (by decide) (fun h9 => absurd h9 (by decide)) (fun _ => ?_)
  refine lv_aload_n hx hb dX10_init_90 rfl (lv_at hl 1 rfl) ?_
  refine va_get (D := G) (ci := 10) (v := .ref nq46) (C := RX10) (T := TX10) (N := 8) hx hb hts inB10 hown hE.1 hP 0 rfl rfl 5 (by decide) (hts _ m_321) (fun _ h9 => h9) rfl dX10_init_91 ?_
  refine lv_iload_n hx hb dX10_init_94 rfl (lv_at hl 0 rfl) ?_
  refine va_new (ci := 9) (fs := [.int 0, .int 0, .int 0, .int 0, .int 0, .int 0, .int 0, .int 0, .int 0, .null, .null]) (C := RX9) (T := TX9) (N := 11) hx hb hts inB9 tyX9 tyX9_ok hown (hts _ m_251) (hts _ m_253) (hts _ m_87) hE.1 hP hD hS hA rfl df9 (Nat.le_of_ble_eq_true rfl) (Nat.le_of_ble_eq_true rfl) dX10_init_95 (fun nq71 H hP hD hS => ?_)
  have hP : va_P G classes [(h0, .inr (10, [.ref nq1, .ref nq10, .ref nq31, .ref nq40, .ref nq43, .ref nq46, .int 0, .int 0])), (nq1, .inr (7, [.ref xq3, .ref xq4, .ref xq5, .ref xq6, .ref xq7, .int 0])), (xq3, .inl (cy 0, 192, .inl xf8)), (xq4, .inl (cy 0, 40, .inl (fun _ => 0))), (xq5, .inl (cy 0, 40, .inl (fun _ => 0))), (xq6, .inl (cy 0, 40, .inl (fun _ => 0))), (xq7, .inl (cy 0, 40, .inl (fun _ => 0))), (nq10, .inr (2, [.int 5, .int 9, .int 0, .ref xq12, .ref xq13, .ref xq14, .ref xq15])), (xq12, .inl (cy 0, 5, .inl xf25)), (xq13, .inl (cy 0, 5, .inl (fun _ => 0))), (xq14, .inl (cy 3, 3, .inr (.inr (.inr (.inr xg26))))), (xq15, .inl (cy 0, 5, .inl (fun _ => 0))), (xq16, .inr (1, [.ref xq17, .ref xq18, .int 0])), (xq17, .inl (cy 0, 48, .inl (fun _ => 0))), (xq18, .inl (cy 0, 48, .inl (fun _ => 0))), (xq19, .inr (1, [.ref xq20, .ref xq21, .int 0])), (xq20, .inl (cy 0, 48, .inl (fun _ => 0))), (xq21, .inl (cy 0, 48, .inl (fun _ => 0))), (xq22, .inr (1, [.ref xq23, .ref xq24, .int 0])), (xq23, .inl (cy 0, 48, .inl (fun _ => 0))), (xq24, .inl (cy 0, 48, .inl (fun _ => 0))), (nq31, .inr (3, [.ref xq33, .ref xq34, .ref xq35, .int 0, .ref xq36, .ref xq37, .int 0, .int 0, .int 0])), (xq33, .inl (cy 0, 7, .inl (fun _ => 0))), (xq34, .inl (cy 0, 7, .inl (fun _ => 0))), (xq35, .inl (cy 0, 7, .inl (fun _ => 0))), (xq36, .inr (5, [.ref xq38, .int 0])), (xq38, .inl (cy 0, 7, .inl (fun _ => 0))), (xq37, .inr (5, [.ref xq39, .int 0])), (xq39, .inl (cy 0, 7, .inl (fun _ => 0))), (nq40, .inr (5, [.ref xq42, .int 0])), (xq42, .inl (cy 0, 48, .inl (fun _ => 0))), (nq43, .inr (5, [.ref xq45, .int 0])), (xq45, .inl (cy 0, 24, .inl (fun _ => 0))), (nq46, .inl (cy 4, 8, .inr (.inr (.inr (.inr (va_up (va_up (va_up (va_up (va_up (va_up (fun _ => none) 0 (some nq47)) 1 (some nq51)) 2 (some nq55)) 3 (some nq59)) 4 (some nq63)) 5 (some nq67))))))), (nq47, .inr (9, [.int 0, .int 0, .int 0, .int 5, .int 60, .int 0, .int 0, .int 0, .int 0, .ref xq49, .ref xq50])), (xq49, .inl (cy 0, 192, .inl (fun _ => 0))), (xq50, .inl (cy 0, 192, .inl (fun _ => 0))), (nq51, .inr (9, [.int 0, .int 0, .int 0, .int 5, .int 60, .int 0, .int 0, .int 0, .int 0, .ref xq53, .ref xq54])), (xq53, .inl (cy 0, 192, .inl (fun _ => 0))), (xq54, .inl (cy 0, 192, .inl (fun _ => 0))), (nq55, .inr (9, [.int 0, .int 0, .int 0, .int 5, .int 60, .int 0, .int 0, .int 0, .int 0, .ref xq57, .ref xq58])), (xq57, .inl (cy 0, 192, .inl (fun _ => 0))), (xq58, .inl (cy 0, 192, .inl (fun _ => 0))), (nq59, .inr (9, [.int 0, .int 0, .int 0, .int 5, .int 60, .int 0, .int 0, .int 0, .int 0, .ref xq61, .ref xq62])), (xq61, .inl (cy 0, 192, .inl (fun _ => 0))), (xq62, .inl (cy 0, 192, .inl (fun _ => 0))), (nq63, .inr (9, [.int 0, .int 0, .int 0, .int 5, .int 60, .int 0, .int 0, .int 0, .int 0, .ref xq65, .ref xq66])), (xq65, .inl (cy 0, 192, .inl (fun _ => 0))), (xq66, .inl (cy 0, 192, .inl (fun _ => 0))), (nq67, .inr (9, [.int 0, .int 0, .int 0, .int 5, .int 60, .int 0, .int 0, .int 0, .int 0, .ref xq69, .ref xq70])), (xq69, .inl (cy 0, 192, .inl (fun _ => 0))), (xq70, .inl (cy 0, 192, .inl (fun _ => 0))), (nq71, .inr (9, [.int 0, .int 0, .int 0, .int 0, .int 0, .int 0, .int 0, .int 0, .int 0, .null, .null]))] H := hP
  refine lv_dup hx hb dX10_init_98 rfl ?_
  refine wIN (B := (B_c_X9_init G cy sk (va_A [(nq71, .inr (9, [.int 0, .int 0, .int 0, .int 0, .int 0, .int 0, .int 0, .int 0, .int 0, .null, .null]))] H.size) nq71)) (wr := [(h0, .inr (10, [.ref nq1, .ref nq10, .ref nq31, .ref nq40, .ref nq43, .ref nq46, .int 0, .int 0])), (nq1, .inr (7, [.ref xq3, .ref xq4, .ref xq5, .ref xq6, .ref xq7, .int 0])), (xq3, .inl (cy 0, 192, .inl xf8)), (xq4, .inl (cy 0, 40, .inl (fun _ => 0))), (xq5, .inl (cy 0, 40, .inl (fun _ => 0))), (xq6, .inl (cy 0, 40, .inl (fun _ => 0))), (xq7, .inl (cy 0, 40, .inl (fun _ => 0))), (nq10, .inr (2, [.int 5, .int 9, .int 0, .ref xq12, .ref xq13, .ref xq14, .ref xq15])), (xq12, .inl (cy 0, 5, .inl xf25)), (xq13, .inl (cy 0, 5, .inl (fun _ => 0))), (xq14, .inl (cy 3, 3, .inr (.inr (.inr (.inr xg26))))), (xq15, .inl (cy 0, 5, .inl (fun _ => 0))), (xq16, .inr (1, [.ref xq17, .ref xq18, .int 0])), (xq17, .inl (cy 0, 48, .inl (fun _ => 0))), (xq18, .inl (cy 0, 48, .inl (fun _ => 0))), (xq19, .inr (1, [.ref xq20, .ref xq21, .int 0])), (xq20, .inl (cy 0, 48, .inl (fun _ => 0))), (xq21, .inl (cy 0, 48, .inl (fun _ => 0))), (xq22, .inr (1, [.ref xq23, .ref xq24, .int 0])), (xq23, .inl (cy 0, 48, .inl (fun _ => 0))), (xq24, .inl (cy 0, 48, .inl (fun _ => 0))), (nq31, .inr (3, [.ref xq33, .ref xq34, .ref xq35, .int 0, .ref xq36, .ref xq37, .int 0, .int 0, .int 0])), (xq33, .inl (cy 0, 7, .inl (fun _ => 0))), (xq34, .inl (cy 0, 7, .inl (fun _ => 0))), (xq35, .inl (cy 0, 7, .inl (fun _ => 0))), (xq36, .inr (5, [.ref xq38, .int 0])), (xq38, .inl (cy 0, 7, .inl (fun _ => 0))), (xq37, .inr (5, [.ref xq39, .int 0])), (xq39, .inl (cy 0, 7, .inl (fun _ => 0))), (nq40, .inr (5, [.ref xq42, .int 0])), (xq42, .inl (cy 0, 48, .inl (fun _ => 0))), (nq43, .inr (5, [.ref xq45, .int 0])), (xq45, .inl (cy 0, 24, .inl (fun _ => 0))), (nq46, .inl (cy 4, 8, .inr (.inr (.inr (.inr (va_up (va_up (va_up (va_up (va_up (va_up (fun _ => none) 0 (some nq47)) 1 (some nq51)) 2 (some nq55)) 3 (some nq59)) 4 (some nq63)) 5 (some nq67))))))), (nq47, .inr (9, [.int 0, .int 0, .int 0, .int 5, .int 60, .int 0, .int 0, .int 0, .int 0, .ref xq49, .ref xq50])), (xq49, .inl (cy 0, 192, .inl (fun _ => 0))), (xq50, .inl (cy 0, 192, .inl (fun _ => 0))), (nq51, .inr (9, [.int 0, .int 0, .int 0, .int 5, .int 60, .int 0, .int 0, .int 0, .int 0, .ref xq53, .ref xq54])), (xq53, .inl (cy 0, 192, .inl (fun _ => 0))), (xq54, .inl (cy 0, 192, .inl (fun _ => 0))), (nq55, .inr (9, [.int 0, .int 0, .int 0, .int 5, .int 60, .int 0, .int 0, .int 0, .int 0, .ref xq57, .ref xq58])), (xq57, .inl (cy 0, 192, .inl (fun _ => 0))), (xq58, .inl (cy 0, 192, .inl (fun _ => 0))), (nq59, .inr (9, [.int 0, .int 0, .int 0, .int 5, .int 60, .int 0, .int 0, .int 0, .int 0, .ref xq61, .ref xq62])), (xq61, .inl (cy 0, 192, .inl (fun _ => 0))), (xq62, .inl (cy 0, 192, .inl (fun _ => 0))), (nq63, .inr (9, [.int 0, .int 0, .int 0, .int 5, .int 60, .int 0, .int 0, .int 0, .int 0, .ref xq65, .ref xq66])), (xq65, .inl (cy 0, 192, .inl (fun _ => 0))), (xq66, .inl (cy 0, 192, .inl (fun _ => 0))), (nq67, .inr (9, [.int 0, .int 0, .int 0, .int 5, .int 60, .int 0, .int 0, .int 0, .int 0, .ref xq69, .ref xq70])), (xq69, .inl (cy 0, 192, .inl (fun _ => 0))), (xq70, .inl (cy 0, 192, .inl (fun _ => 0)))]) (rest := [.ref nq71, .int 6, .ref nq46]) (host := "ClickStreet") hx hb hml hown hts hE (c_X9_init l G cy sk H.size nq71) kI_X9_init (by decide +kernel) rfl rfl ⟨(Nat.le_of_ble_eq_true rfl), (Nat.le_of_ble_eq_true rfl)⟩ hP hD hS hA [52] [0, 1, 2, 3, 4, 5, 6, 7, 8, 9, 10, 11, 12, 13, 14, 15, 16, 17, 18, 19, 20, 21, 22, 23, 24, 25, 26, 27, 28, 29, 30, 31, 32, 33, 34, 35, 36, 37, 38, 39, 40, 41, 42, 43, 44, 45, 46, 47, 48, 49, 50, 51] rfl rfl rfl rfl (by decide) rfl rfl hl.1 (Nat.le_of_ble_eq_true rfl) dX10_init_99 ⟨(Nat.le_of_ble_eq_true rfl), (Nat.le_of_ble_eq_true rfl)⟩ (fun H locs haf hS => ?_)
  obtain ⟨xq73, xq74, hP1, hD1⟩ := haf.1
  obtain ⟨hP, hD⟩ := haf.2.1 _ hP1 hD1
  have hP : va_P G classes [(h0, .inr (10, [.ref nq1, .ref nq10, .ref nq31, .ref nq40, .ref nq43, .ref nq46, .int 0, .int 0])), (nq1, .inr (7, [.ref xq3, .ref xq4, .ref xq5, .ref xq6, .ref xq7, .int 0])), (xq3, .inl (cy 0, 192, .inl xf8)), (xq4, .inl (cy 0, 40, .inl (fun _ => 0))), (xq5, .inl (cy 0, 40, .inl (fun _ => 0))), (xq6, .inl (cy 0, 40, .inl (fun _ => 0))), (xq7, .inl (cy 0, 40, .inl (fun _ => 0))), (nq10, .inr (2, [.int 5, .int 9, .int 0, .ref xq12, .ref xq13, .ref xq14, .ref xq15])), (xq12, .inl (cy 0, 5, .inl xf25)), (xq13, .inl (cy 0, 5, .inl (fun _ => 0))), (xq14, .inl (cy 3, 3, .inr (.inr (.inr (.inr xg26))))), (xq15, .inl (cy 0, 5, .inl (fun _ => 0))), (xq16, .inr (1, [.ref xq17, .ref xq18, .int 0])), (xq17, .inl (cy 0, 48, .inl (fun _ => 0))), (xq18, .inl (cy 0, 48, .inl (fun _ => 0))), (xq19, .inr (1, [.ref xq20, .ref xq21, .int 0])), (xq20, .inl (cy 0, 48, .inl (fun _ => 0))), (xq21, .inl (cy 0, 48, .inl (fun _ => 0))), (xq22, .inr (1, [.ref xq23, .ref xq24, .int 0])), (xq23, .inl (cy 0, 48, .inl (fun _ => 0))), (xq24, .inl (cy 0, 48, .inl (fun _ => 0))), (nq31, .inr (3, [.ref xq33, .ref xq34, .ref xq35, .int 0, .ref xq36, .ref xq37, .int 0, .int 0, .int 0])), (xq33, .inl (cy 0, 7, .inl (fun _ => 0))), (xq34, .inl (cy 0, 7, .inl (fun _ => 0))), (xq35, .inl (cy 0, 7, .inl (fun _ => 0))), (xq36, .inr (5, [.ref xq38, .int 0])), (xq38, .inl (cy 0, 7, .inl (fun _ => 0))), (xq37, .inr (5, [.ref xq39, .int 0])), (xq39, .inl (cy 0, 7, .inl (fun _ => 0))), (nq40, .inr (5, [.ref xq42, .int 0])), (xq42, .inl (cy 0, 48, .inl (fun _ => 0))), (nq43, .inr (5, [.ref xq45, .int 0])), (xq45, .inl (cy 0, 24, .inl (fun _ => 0))), (nq46, .inl (cy 4, 8, .inr (.inr (.inr (.inr (va_up (va_up (va_up (va_up (va_up (va_up (fun _ => none) 0 (some nq47)) 1 (some nq51)) 2 (some nq55)) 3 (some nq59)) 4 (some nq63)) 5 (some nq67))))))), (nq47, .inr (9, [.int 0, .int 0, .int 0, .int 5, .int 60, .int 0, .int 0, .int 0, .int 0, .ref xq49, .ref xq50])), (xq49, .inl (cy 0, 192, .inl (fun _ => 0))), (xq50, .inl (cy 0, 192, .inl (fun _ => 0))), (nq51, .inr (9, [.int 0, .int 0, .int 0, .int 5, .int 60, .int 0, .int 0, .int 0, .int 0, .ref xq53, .ref xq54])), (xq53, .inl (cy 0, 192, .inl (fun _ => 0))), (xq54, .inl (cy 0, 192, .inl (fun _ => 0))), (nq55, .inr (9, [.int 0, .int 0, .int 0, .int 5, .int 60, .int 0, .int 0, .int 0, .int 0, .ref xq57, .ref xq58])), (xq57, .inl (cy 0, 192, .inl (fun _ => 0))), (xq58, .inl (cy 0, 192, .inl (fun _ => 0))), (nq59, .inr (9, [.int 0, .int 0, .int 0, .int 5, .int 60, .int 0, .int 0, .int 0, .int 0, .ref xq61, .ref xq62])), (xq61, .inl (cy 0, 192, .inl (fun _ => 0))), (xq62, .inl (cy 0, 192, .inl (fun _ => 0))), (nq63, .inr (9, [.int 0, .int 0, .int 0, .int 5, .int 60, .int 0, .int 0, .int 0, .int 0, .ref xq65, .ref xq66])), (xq65, .inl (cy 0, 192, .inl (fun _ => 0))), (xq66, .inl (cy 0, 192, .inl (fun _ => 0))), (nq67, .inr (9, [.int 0, .int 0, .int 0, .int 5, .int 60, .int 0, .int 0, .int 0, .int 0, .ref xq69, .ref xq70])), (xq69, .inl (cy 0, 192, .inl (fun _ => 0))), (xq70, .inl (cy 0, 192, .inl (fun _ => 0))), (nq71, .inr (9, [.int 0, .int 0, .int 0, .int 5, .int 60, .int 0, .int 0, .int 0, .int 0, .ref xq73, .ref xq74])), (xq73, .inl (cy 0, 192, .inl (fun _ => 0))), (xq74, .inl (cy 0, 192, .inl (fun _ => 0)))] H := hP
  refine va_astq hx hb hE.1 hP hD hS 33 4 52 9 rfl rfl rfl rfl (vinL (by decide)) dX10_init_102 (fun H locs hP hD hS => ?_)
  have hP : va_P G classes [(h0, .inr (10, [.ref nq1, .ref nq10, .ref nq31, .ref nq40, .ref nq43, .ref nq46, .int 0, .int 0])), (nq1, .inr (7, [.ref xq3, .ref xq4, .ref xq5, .ref xq6, .ref xq7, .int 0])), (xq3, .inl (cy 0, 192, .inl xf8)), (xq4, .inl (cy 0, 40, .inl (fun _ => 0))), (xq5, .inl (cy 0, 40, .inl (fun _ => 0))), (xq6, .inl (cy 0, 40, .inl (fun _ => 0))), (xq7, .inl (cy 0, 40, .inl (fun _ => 0))), (nq10, .inr (2, [.int 5, .int 9, .int 0, .ref xq12, .ref xq13, .ref xq14, .ref xq15])), (xq12, .inl (cy 0, 5, .inl xf25)), (xq13, .inl (cy 0, 5, .inl (fun _ => 0))), (xq14, .inl (cy 3, 3, .inr (.inr (.inr (.inr xg26))))), (xq15, .inl (cy 0, 5, .inl (fun _ => 0))), (xq16, .inr (1, [.ref xq17, .ref xq18, .int 0])), (xq17, .inl (cy 0, 48, .inl (fun _ => 0))), (xq18, .inl (cy 0, 48, .inl (fun _ => 0))), (xq19, .inr (1, [.ref xq20, .ref xq21, .int 0])), (xq20, .inl (cy 0, 48, .inl (fun _ => 0))), (xq21, .inl (cy 0, 48, .inl (fun _ => 0))), (xq22, .inr (1, [.ref xq23, .ref xq24, .int 0])), (xq23, .inl (cy 0, 48, .inl (fun _ => 0))), (xq24, .inl (cy 0, 48, .inl (fun _ => 0))), (nq31, .inr (3, [.ref xq33, .ref xq34, .ref xq35, .int 0, .ref xq36, .ref xq37, .int 0, .int 0, .int 0])), (xq33, .inl (cy 0, 7, .inl (fun _ => 0))), (xq34, .inl (cy 0, 7, .inl (fun _ => 0))), (xq35, .inl (cy 0, 7, .inl (fun _ => 0))), (xq36, .inr (5, [.ref xq38, .int 0])), (xq38, .inl (cy 0, 7, .inl (fun _ => 0))), (xq37, .inr (5, [.ref xq39, .int 0])), (xq39, .inl (cy 0, 7, .inl (fun _ => 0))), (nq40, .inr (5, [.ref xq42, .int 0])), (xq42, .inl (cy 0, 48, .inl (fun _ => 0))), (nq43, .inr (5, [.ref xq45, .int 0])), (xq45, .inl (cy 0, 24, .inl (fun _ => 0))), (nq46, .inl (cy 4, 8, .inr (.inr (.inr (.inr (va_up (va_up (va_up (va_up (va_up (va_up (va_up (fun _ => none) 0 (some nq47)) 1 (some nq51)) 2 (some nq55)) 3 (some nq59)) 4 (some nq63)) 5 (some nq67)) 6 (some nq71))))))), (nq47, .inr (9, [.int 0, .int 0, .int 0, .int 5, .int 60, .int 0, .int 0, .int 0, .int 0, .ref xq49, .ref xq50])), (xq49, .inl (cy 0, 192, .inl (fun _ => 0))), (xq50, .inl (cy 0, 192, .inl (fun _ => 0))), (nq51, .inr (9, [.int 0, .int 0, .int 0, .int 5, .int 60, .int 0, .int 0, .int 0, .int 0, .ref xq53, .ref xq54])), (xq53, .inl (cy 0, 192, .inl (fun _ => 0))), (xq54, .inl (cy 0, 192, .inl (fun _ => 0))), (nq55, .inr (9, [.int 0, .int 0, .int 0, .int 5, .int 60, .int 0, .int 0, .int 0, .int 0, .ref xq57, .ref xq58])), (xq57, .inl (cy 0, 192, .inl (fun _ => 0))), (xq58, .inl (cy 0, 192, .inl (fun _ => 0))), (nq59, .inr (9, [.int 0, .int 0, .int 0, .int 5, .int 60, .int 0, .int 0, .int 0, .int 0, .ref xq61, .ref xq62])), (xq61, .inl (cy 0, 192, .inl (fun _ => 0))), (xq62, .inl (cy 0, 192, .inl (fun _ => 0))), (nq63, .inr (9, [.int 0, .int 0, .int 0, .int 5, .int 60, .int 0, .int 0, .int 0, .int 0, .ref xq65, .ref xq66])), (xq65, .inl (cy 0, 192, .inl (fun _ => 0))), (xq66, .inl (cy 0, 192, .inl (fun _ => 0))), (nq67, .inr (9, [.int 0, .int 0, .int 0, .int 5, .int 60, .int 0, .int 0, .int 0, .int 0, .ref xq69, .ref xq70])), (xq69, .inl (cy 0, 192, .inl (fun _ => 0))), (xq70, .inl (cy 0, 192, .inl (fun _ => 0))), (nq71, .inr (9, [.int 0, .int 0, .int 0, .int 5, .int 60, .int 0, .int 0, .int 0, .int 0, .ref xq73, .ref xq74])), (xq73, .inl (cy 0, 192, .inl (fun _ => 0))), (xq74, .inl (cy 0, 192, .inl (fun _ => 0)))] H := hP
  refine lv_iinc (v := 7) (lv' := [(1, .int 7), (0, .ref h0)]) hx hb dX10_init_103 hl (k := 0) rfl (by decide) (by decide) rfl (fun ls hl => ?_)
  refine lv_goto (tgt := 84) hx hb dX10_init_106 (by decide) ?_
  refine lv_iload_n hx hb dX10_init_84 rfl (lv_at hl 0 rfl) ?_
  refine lv_bipush (v := 8) hx hb dX10_init_85 (by decide) ?_
  refine lv_icmp_ge (tgt := 109) hx hb dX10_init_87 (by decide) (fun h9 => absurd h9 (by decide)) (fun _ => ?_)
  refine lv_aload_n hx hb dX10_init_90 rfl (lv_at hl 1 rfl) ?_
  refine va_get (D := G) (ci := 10) (v := .ref nq46) (C := RX10) (T := TX10) (N := 8) hx hb hts inB10 hown hE.1 hP 0 rfl rfl 5 (by decide) (hts _ m_321) (fun _ h9 => h9) rfl dX10_init_91 ?_
  refine lv_iload_n hx hb dX10_init_94 rfl (lv_at hl 0 rfl) ?_
  refine va_new (ci := 9) (fs := [.int 0, .int 0, .int 0, .int 0, .int 0, .int 0, .int 0, .int 0, .int 0, .null, .null]) (C := RX9) (T := TX9) (N := 11) hx hb hts inB9 tyX9 tyX9_ok hown (hts _ m_251) (hts _ m_253) (hts _ m_87) hE.1 hP hD hS hA rfl df9 (Nat.le_of_ble_eq_true rfl) (Nat.le_of_ble_eq_true rfl) dX10_init_95 (fun nq75 H hP hD hS => ?_)
  have hP : va_P G classes [(h0, .inr (10, [.ref nq1, .ref nq10, .ref nq31, .ref nq40, .ref nq43, .ref nq46, .int 0, .int 0])), (nq1, .inr (7, [.ref xq3, .ref xq4, .ref xq5, .ref xq6, .ref xq7, .int 0])), (xq3, .inl (cy 0, 192, .inl xf8)), (xq4, .inl (cy 0, 40, .inl (fun _ => 0))), (xq5, .inl (cy 0, 40, .inl (fun _ => 0))), (xq6, .inl (cy 0, 40, .inl (fun _ => 0))), (xq7, .inl (cy 0, 40, .inl (fun _ => 0))), (nq10, .inr (2, [.int 5, .int 9, .int 0, .ref xq12, .ref xq13, .ref xq14, .ref xq15])), (xq12, .inl (cy 0, 5, .inl xf25)), (xq13, .inl (cy 0, 5, .inl (fun _ => 0))), (xq14, .inl (cy 3, 3, .inr (.inr (.inr (.inr xg26))))), (xq15, .inl (cy 0, 5, .inl (fun _ => 0))), (xq16, .inr (1, [.ref xq17, .ref xq18, .int 0])), (xq17, .inl (cy 0, 48, .inl (fun _ => 0))), (xq18, .inl (cy 0, 48, .inl (fun _ => 0))), (xq19, .inr (1, [.ref xq20, .ref xq21, .int 0])), (xq20, .inl (cy 0, 48, .inl (fun _ => 0))), (xq21, .inl (cy 0, 48, .inl (fun _ => 0))), (xq22, .inr (1, [.ref xq23, .ref xq24, .int 0])), (xq23, .inl (cy 0, 48, .inl (fun _ => 0))), (xq24, .inl (cy 0, 48, .inl (fun _ => 0))), (nq31, .inr (3, [.ref xq33, .ref xq34, .ref xq35, .int 0, .ref xq36, .ref xq37, .int 0, .int 0, .int 0])), (xq33, .inl (cy 0, 7, .inl (fun _ => 0))), (xq34, .inl (cy 0, 7, .inl (fun _ => 0))), (xq35, .inl (cy 0, 7, .inl (fun _ => 0))), (xq36, .inr (5, [.ref xq38, .int 0])), (xq38, .inl (cy 0, 7, .inl (fun _ => 0))), (xq37, .inr (5, [.ref xq39, .int 0])), (xq39, .inl (cy 0, 7, .inl (fun _ => 0))), (nq40, .inr (5, [.ref xq42, .int 0])), (xq42, .inl (cy 0, 48, .inl (fun _ => 0))), (nq43, .inr (5, [.ref xq45, .int 0])), (xq45, .inl (cy 0, 24, .inl (fun _ => 0))), (nq46, .inl (cy 4, 8, .inr (.inr (.inr (.inr (va_up (va_up (va_up (va_up (va_up (va_up (va_up (fun _ => none) 0 (some nq47)) 1 (some nq51)) 2 (some nq55)) 3 (some nq59)) 4 (some nq63)) 5 (some nq67)) 6 (some nq71))))))), (nq47, .inr (9, [.int 0, .int 0, .int 0, .int 5, .int 60, .int 0, .int 0, .int 0, .int 0, .ref xq49, .ref xq50])), (xq49, .inl (cy 0, 192, .inl (fun _ => 0))), (xq50, .inl (cy 0, 192, .inl (fun _ => 0))), (nq51, .inr (9, [.int 0, .int 0, .int 0, .int 5, .int 60, .int 0, .int 0, .int 0, .int 0, .ref xq53, .ref xq54])), (xq53, .inl (cy 0, 192, .inl (fun _ => 0))), (xq54, .inl (cy 0, 192, .inl (fun _ => 0))), (nq55, .inr (9, [.int 0, .int 0, .int 0, .int 5, .int 60, .int 0, .int 0, .int 0, .int 0, .ref xq57, .ref xq58])), (xq57, .inl (cy 0, 192, .inl (fun _ => 0))), (xq58, .inl (cy 0, 192, .inl (fun _ => 0))), (nq59, .inr (9, [.int 0, .int 0, .int 0, .int 5, .int 60, .int 0, .int 0, .int 0, .int 0, .ref xq61, .ref xq62])), (xq61, .inl (cy 0, 192, .inl (fun _ => 0))), (xq62, .inl (cy 0, 192, .inl (fun _ => 0))), (nq63, .inr (9, [.int 0, .int 0, .int 0, .int 5, .int 60, .int 0, .int 0, .int 0, .int 0, .ref xq65, .ref xq66])), (xq65, .inl (cy 0, 192, .inl (fun _ => 0))), (xq66, .inl (cy 0, 192, .inl (fun _ => 0))), (nq67, .inr (9, [.int 0, .int 0, .int 0, .int 5, .int 60, .int 0, .int 0, .int 0, .int 0, .ref xq69, .ref xq70])), (xq69, .inl (cy 0, 192, .inl (fun _ => 0))), (xq70, .inl (cy 0, 192, .inl (fun _ => 0))), (nq71, .inr (9, [.int 0, .int 0, .int 0, .int 5, .int 60, .int 0, .int 0, .int 0, .int 0, .ref xq73, .ref xq74])), (xq73, .inl (cy 0, 192, .inl (fun _ => 0))), (xq74, .inl (cy 0, 192, .inl (fun _ => 0))), (nq75, .inr (9, [.int 0, .int 0, .int 0, .int 0, .int 0, .int 0, .int 0, .int 0, .int 0, .null, .null]))] H := hP
  refine lv_dup hx hb dX10_init_98 rfl ?_
  refine wIN (B := (B_c_X9_init G cy sk (va_A [(nq75, .inr (9, [.int 0, .int 0, .int 0, .int 0, .int 0, .int 0, .int 0, .int 0, .int 0, .null, .null]))] H.size) nq75)) (wr := [(h0, .inr (10, [.ref nq1, .ref nq10, .ref nq31, .ref nq40, .ref nq43, .ref nq46, .int 0, .int 0])), (nq1, .inr (7, [.ref xq3, .ref xq4, .ref xq5, .ref xq6, .ref xq7, .int 0])), (xq3, .inl (cy 0, 192, .inl xf8)), (xq4, .inl (cy 0, 40, .inl (fun _ => 0))), (xq5, .inl (cy 0, 40, .inl (fun _ => 0))), (xq6, .inl (cy 0, 40, .inl (fun _ => 0))), (xq7, .inl (cy 0, 40, .inl (fun _ => 0))), (nq10, .inr (2, [.int 5, .int 9, .int 0, .ref xq12, .ref xq13, .ref xq14, .ref xq15])), (xq12, .inl (cy 0, 5, .inl xf25)), (xq13, .inl (cy 0, 5, .inl (fun _ => 0))), (xq14, .inl (cy 3, 3, .inr (.inr (.inr (.inr xg26))))), (xq15, .inl (cy 0, 5, .inl (fun _ => 0))), (xq16, .inr (1, [.ref xq17, .ref xq18, .int 0])), (xq17, .inl (cy 0, 48, .inl (fun _ => 0))), (xq18, .inl (cy 0, 48, .inl (fun _ => 0))), (xq19, .inr (1, [.ref xq20, .ref xq21, .int 0])), (xq20, .inl (cy 0, 48, .inl (fun _ => 0))), (xq21, .inl (cy 0, 48, .inl (fun _ => 0))), (xq22, .inr (1, [.ref xq23, .ref xq24, .int 0])), (xq23, .inl (cy 0, 48, .inl (fun _ => 0))), (xq24, .inl (cy 0, 48, .inl (fun _ => 0))), (nq31, .inr (3, [.ref xq33, .ref xq34, .ref xq35, .int 0, .ref xq36, .ref xq37, .int 0, .int 0, .int 0])), (xq33, .inl (cy 0, 7, .inl (fun _ => 0))), (xq34, .inl (cy 0, 7, .inl (fun _ => 0))), (xq35, .inl (cy 0, 7, .inl (fun _ => 0))), (xq36, .inr (5, [.ref xq38, .int 0])), (xq38, .inl (cy 0, 7, .inl (fun _ => 0))), (xq37, .inr (5, [.ref xq39, .int 0])), (xq39, .inl (cy 0, 7, .inl (fun _ => 0))), (nq40, .inr (5, [.ref xq42, .int 0])), (xq42, .inl (cy 0, 48, .inl (fun _ => 0))), (nq43, .inr (5, [.ref xq45, .int 0])), (xq45, .inl (cy 0, 24, .inl (fun _ => 0))), (nq46, .inl (cy 4, 8, .inr (.inr (.inr (.inr (va_up (va_up (va_up (va_up (va_up (va_up (va_up (fun _ => none) 0 (some nq47)) 1 (some nq51)) 2 (some nq55)) 3 (some nq59)) 4 (some nq63)) 5 (some nq67)) 6 (some nq71))))))), (nq47, .inr (9, [.int 0, .int 0, .int 0, .int 5, .int 60, .int 0, .int 0, .int 0, .int 0, .ref xq49, .ref xq50])), (xq49, .inl (cy 0, 192, .inl (fun _ => 0))), (xq50, .inl (cy 0, 192, .inl (fun _ => 0))), (nq51, .inr (9, [.int 0, .int 0, .int 0, .int 5, .int 60, .int 0, .int 0, .int 0, .int 0, .ref xq53, .ref xq54])), (xq53, .inl (cy 0, 192, .inl (fun _ => 0))), (xq54, .inl (cy 0, 192, .inl (fun _ => 0))), (nq55, .inr (9, [.int 0, .int 0, .int 0, .int 5, .int 60, .int 0, .int 0, .int 0, .int 0, .ref xq57, .ref xq58])), (xq57, .inl (cy 0, 192, .inl (fun _ => 0))), (xq58, .inl (cy 0, 192, .inl (fun _ => 0))), (nq59, .inr (9, [.int 0, .int 0, .int 0, .int 5, .int 60, .int 0, .int 0, .int 0, .int 0, .ref xq61, .ref xq62])), (xq61, .inl (cy 0, 192, .inl (fun _ => 0))), (xq62, .inl (cy 0, 192, .inl (fun _ => 0))), (nq63, .inr (9, [.int 0, .int 0, .int 0, .int 5, .int 60, .int 0, .int 0, .int 0, .int 0, .ref xq65, .ref xq66])), (xq65, .inl (cy 0, 192, .inl (fun _ => 0))), (xq66, .inl (cy 0, 192, .inl (fun _ => 0))), (nq67, .inr (9, [.int 0, .int 0, .int 0, .int 5, .int 60, .int 0, .int 0, .int 0, .int 0, .ref xq69, .ref xq70])), (xq69, .inl (cy 0, 192, .inl (fun _ => 0))), (xq70, .inl (cy 0, 192, .inl (fun _ => 0))), (nq71, .inr (9, [.int 0, .int 0, .int 0, .int 5, .int 60, .int 0, .int 0, .int 0, .int 0, .ref xq73, .ref xq74])), (xq73, .inl (cy 0, 192, .inl (fun _ => 0))), (xq74, .inl (cy 0, 192, .inl (fun _ => 0)))]) (rest := [.ref nq75, .int 7, .ref nq46]) (host := "ClickStreet") hx hb hml hown hts hE (c_X9_init l G cy sk H.size nq75) kI_X9_init (by decide +kernel) rfl rfl ⟨(Nat.le_of_ble_eq_true rfl), (Nat.le_of_ble_eq_true rfl)⟩ hP hD hS hA [55] [0, 1, 2, 3, 4, 5, 6, 7, 8, 9, 10, 11, 12, 13, 14, 15, 16, 17, 18, 19, 20, 21, 22, 23, 24, 25, 26, 27, 28, 29, 30, 31, 32, 33, 34, 35, 36, 37, 38, 39, 40, 41, 42, 43, 44, 45, 46, 47, 48, 49, 50, 51, 52, 53, 54] rfl rfl rfl rfl (by decide) rfl rfl hl.1 (Nat.le_of_ble_eq_true rfl) dX10_init_99 ⟨(Nat.le_of_ble_eq_true rfl), (Nat.le_of_ble_eq_true rfl)⟩ (fun H locs haf hS => ?_)
  obtain ⟨xq77, xq78, hP1, hD1⟩ := haf.1
  obtain ⟨hP, hD⟩ := haf.2.1 _ hP1 hD1
  have hP : va_P G classes [(h0, .inr (10, [.ref nq1, .ref nq10, .ref nq31, .ref nq40, .ref nq43, .ref nq46, .int 0, .int 0])), (nq1, .inr (7, [.ref xq3, .ref xq4, .ref xq5, .ref xq6, .ref xq7, .int 0])), (xq3, .inl (cy 0, 192, .inl xf8)), (xq4, .inl (cy 0, 40, .inl (fun _ => 0))), (xq5, .inl (cy 0, 40, .inl (fun _ => 0))), (xq6, .inl (cy 0, 40, .inl (fun _ => 0))), (xq7, .inl (cy 0, 40, .inl (fun _ => 0))), (nq10, .inr (2, [.int 5, .int 9, .int 0, .ref xq12, .ref xq13, .ref xq14, .ref xq15])), (xq12, .inl (cy 0, 5, .inl xf25)), (xq13, .inl (cy 0, 5, .inl (fun _ => 0))), (xq14, .inl (cy 3, 3, .inr (.inr (.inr (.inr xg26))))), (xq15, .inl (cy 0, 5, .inl (fun _ => 0))), (xq16, .inr (1, [.ref xq17, .ref xq18, .int 0])), (xq17, .inl (cy 0, 48, .inl (fun _ => 0))), (xq18, .inl (cy 0, 48, .inl (fun _ => 0))), (xq19, .inr (1, [.ref xq20, .ref xq21, .int 0])), (xq20, .inl (cy 0, 48, .inl (fun _ => 0))), (xq21, .inl (cy 0, 48, .inl (fun _ => 0))), (xq22, .inr (1, [.ref xq23, .ref xq24, .int 0])), (xq23, .inl (cy 0, 48, .inl (fun _ => 0))), (xq24, .inl (cy 0, 48, .inl (fun _ => 0))), (nq31, .inr (3, [.ref xq33, .ref xq34, .ref xq35, .int 0, .ref xq36, .ref xq37, .int 0, .int 0, .int 0])), (xq33, .inl (cy 0, 7, .inl (fun _ => 0))), (xq34, .inl (cy 0, 7, .inl (fun _ => 0))), (xq35, .inl (cy 0, 7, .inl (fun _ => 0))), (xq36, .inr (5, [.ref xq38, .int 0])), (xq38, .inl (cy 0, 7, .inl (fun _ => 0))), (xq37, .inr (5, [.ref xq39, .int 0])), (xq39, .inl (cy 0, 7, .inl (fun _ => 0))), (nq40, .inr (5, [.ref xq42, .int 0])), (xq42, .inl (cy 0, 48, .inl (fun _ => 0))), (nq43, .inr (5, [.ref xq45, .int 0])), (xq45, .inl (cy 0, 24, .inl (fun _ => 0))), (nq46, .inl (cy 4, 8, .inr (.inr (.inr (.inr (va_up (va_up (va_up (va_up (va_up (va_up (va_up (fun _ => none) 0 (some nq47)) 1 (some nq51)) 2 (some nq55)) 3 (some nq59)) 4 (some nq63)) 5 (some nq67)) 6 (some nq71))))))), (nq47, .inr (9, [.int 0, .int 0, .int 0, .int 5, .int 60, .int 0, .int 0, .int 0, .int 0, .ref xq49, .ref xq50])), (xq49, .inl (cy 0, 192, .inl (fun _ => 0))), (xq50, .inl (cy 0, 192, .inl (fun _ => 0))), (nq51, .inr (9, [.int 0, .int 0, .int 0, .int 5, .int 60, .int 0, .int 0, .int 0, .int 0, .ref xq53, .ref xq54])), (xq53, .inl (cy 0, 192, .inl (fun _ => 0))), (xq54, .inl (cy 0, 192, .inl (fun _ => 0))), (nq55, .inr (9, [.int 0, .int 0, .int 0, .int 5, .int 60, .int 0, .int 0, .int 0, .int 0, .ref xq57, .ref xq58])), (xq57, .inl (cy 0, 192, .inl (fun _ => 0))), (xq58, .inl (cy 0, 192, .inl (fun _ => 0))), (nq59, .inr (9, [.int 0, .int 0, .int 0, .int 5, .int 60, .int 0, .int 0, .int 0, .int 0, .ref xq61, .ref xq62])), (xq61, .inl (cy 0, 192, .inl (fun _ => 0))), (xq62, .inl (cy 0, 192, .inl (fun _ => 0))), (nq63, .inr (9, [.int 0, .int 0, .int 0, .int 5, .int 60, .int 0, .int 0, .int 0, .int 0, .ref xq65, .ref xq66])), (xq65, .inl (cy 0, 192, .inl (fun _ => 0))), (xq66, .inl (cy 0, 192, .inl (fun _ => 0))), (nq67, .inr (9, [.int 0, .int 0, .int 0, .int 5, .int 60, .int 0, .int 0, .int 0, .int 0, .ref xq69, .ref xq70])), (xq69, .inl (cy 0, 192, .inl (fun _ => 0))), (xq70, .inl (cy 0, 192, .inl (fun _ => 0))), (nq71, .inr (9, [.int 0, .int 0, .int 0, .int 5, .int 60, .int 0, .int 0, .int 0, .int 0, .ref xq73, .ref xq74])), (xq73, .inl (cy 0, 192, .inl (fun _ => 0))), (xq74, .inl (cy 0, 192, .inl (fun _ => 0))), (nq75, .inr (9, [.int 0, .int 0, .int 0, .int 5, .int 60, .int 0, .int 0, .int 0, .int 0, .ref xq77, .ref xq78])), (xq77, .inl (cy 0, 192, .inl (fun _ => 0))), (xq78, .inl (cy 0, 192, .inl (fun _ => 0)))] H := hP
  refine va_astq hx hb hE.1 hP hD hS 33 4 55 9 rfl rfl rfl rfl (vinL (by decide)) dX10_init_102 (fun H locs hP hD hS => ?_)
  have hP : va_P G classes [(h0, .inr (10, [.ref nq1, .ref nq10, .ref nq31, .ref nq40, .ref nq43, .ref nq46, .int 0, .int 0])), (nq1, .inr (7, [.ref xq3, .ref xq4, .ref xq5, .ref xq6, .ref xq7, .int 0])), (xq3, .inl (cy 0, 192, .inl xf8)), (xq4, .inl (cy 0, 40, .inl (fun _ => 0))), (xq5, .inl (cy 0, 40, .inl (fun _ => 0))), (xq6, .inl (cy 0, 40, .inl (fun _ => 0))), (xq7, .inl (cy 0, 40, .inl (fun _ => 0))), (nq10, .inr (2, [.int 5, .int 9, .int 0, .ref xq12, .ref xq13, .ref xq14, .ref xq15])), (xq12, .inl (cy 0, 5, .inl xf25)), (xq13, .inl (cy 0, 5, .inl (fun _ => 0))), (xq14, .inl (cy 3, 3, .inr (.inr (.inr (.inr xg26))))), (xq15, .inl (cy 0, 5, .inl (fun _ => 0))), (xq16, .inr (1, [.ref xq17, .ref xq18, .int 0])), (xq17, .inl (cy 0, 48, .inl (fun _ => 0))), (xq18, .inl (cy 0, 48, .inl (fun _ => 0))), (xq19, .inr (1, [.ref xq20, .ref xq21, .int 0])), (xq20, .inl (cy 0, 48, .inl (fun _ => 0))), (xq21, .inl (cy 0, 48, .inl (fun _ => 0))), (xq22, .inr (1, [.ref xq23, .ref xq24, .int 0])), (xq23, .inl (cy 0, 48, .inl (fun _ => 0))), (xq24, .inl (cy 0, 48, .inl (fun _ => 0))), (nq31, .inr (3, [.ref xq33, .ref xq34, .ref xq35, .int 0, .ref xq36, .ref xq37, .int 0, .int 0, .int 0])), (xq33, .inl (cy 0, 7, .inl (fun _ => 0))), (xq34, .inl (cy 0, 7, .inl (fun _ => 0))), (xq35, .inl (cy 0, 7, .inl (fun _ => 0))), (xq36, .inr (5, [.ref xq38, .int 0])), (xq38, .inl (cy 0, 7, .inl (fun _ => 0))), (xq37, .inr (5, [.ref xq39, .int 0])), (xq39, .inl (cy 0, 7, .inl (fun _ => 0))), (nq40, .inr (5, [.ref xq42, .int 0])), (xq42, .inl (cy 0, 48, .inl (fun _ => 0))), (nq43, .inr (5, [.ref xq45, .int 0])), (xq45, .inl (cy 0, 24, .inl (fun _ => 0))), (nq46, .inl (cy 4, 8, .inr (.inr (.inr (.inr (va_up (va_up (va_up (va_up (va_up (va_up (va_up (va_up (fun _ => none) 0 (some nq47)) 1 (some nq51)) 2 (some nq55)) 3 (some nq59)) 4 (some nq63)) 5 (some nq67)) 6 (some nq71)) 7 (some nq75))))))), (nq47, .inr (9, [.int 0, .int 0, .int 0, .int 5, .int 60, .int 0, .int 0, .int 0, .int 0, .ref xq49, .ref xq50])), (xq49, .inl (cy 0, 192, .inl (fun _ => 0))), (xq50, .inl (cy 0, 192, .inl (fun _ => 0))), (nq51, .inr (9, [.int 0, .int 0, .int 0, .int 5, .int 60, .int 0, .int 0, .int 0, .int 0, .ref xq53, .ref xq54])), (xq53, .inl (cy 0, 192, .inl (fun _ => 0))), (xq54, .inl (cy 0, 192, .inl (fun _ => 0))), (nq55, .inr (9, [.int 0, .int 0, .int 0, .int 5, .int 60, .int 0, .int 0, .int 0, .int 0, .ref xq57, .ref xq58])), (xq57, .inl (cy 0, 192, .inl (fun _ => 0))), (xq58, .inl (cy 0, 192, .inl (fun _ => 0))), (nq59, .inr (9, [.int 0, .int 0, .int 0, .int 5, .int 60, .int 0, .int 0, .int 0, .int 0, .ref xq61, .ref xq62])), (xq61, .inl (cy 0, 192, .inl (fun _ => 0))), (xq62, .inl (cy 0, 192, .inl (fun _ => 0))), (nq63, .inr (9, [.int 0, .int 0, .int 0, .int 5, .int 60, .int 0, .int 0, .int 0, .int 0, .ref xq65, .ref xq66])), (xq65, .inl (cy 0, 192, .inl (fun _ => 0))), (xq66, .inl (cy 0, 192, .inl (fun _ => 0))), (nq67, .inr (9, [.int 0, .int 0, .int 0, .int 5, .int 60, .int 0, .int 0, .int 0, .int 0, .ref xq69, .ref xq70])), (xq69, .inl (cy 0, 192, .inl (fun _ => 0))), (xq70, .inl (cy 0, 192, .inl (fun _ => 0))), (nq71, .inr (9, [.int 0, .int 0, .int 0, .int 5, .int 60, .int 0, .int 0, .int 0, .int 0, .ref xq73, .ref xq74])), (xq73, .inl (cy 0, 192, .inl (fun _ => 0))), (xq74, .inl (cy 0, 192, .inl (fun _ => 0))), (nq75, .inr (9, [.int 0, .int 0, .int 0, .int 5, .int 60, .int 0, .int 0, .int 0, .int 0, .ref xq77, .ref xq78])), (xq77, .inl (cy 0, 192, .inl (fun _ => 0))), (xq78, .inl (cy 0, 192, .inl (fun _ => 0)))] H := hP
  refine lv_iinc (v := 8) (lv' := [(1, .int 8), (0, .ref h0)]) hx hb dX10_init_103 hl (k := 0) rfl (by decide) (by decide) rfl (fun ls hl => ?_)
  refine lv_goto (tgt := 84) hx hb dX10_init_106 (by decide) ?_
  refine lv_iload_n hx hb dX10_init_84 rfl (lv_at hl 0 rfl) ?_
  refine lv_bipush (v := 8) hx hb dX10_init_85 (by decide) ?_
  refine lv_icmp_ge (tgt := 109) hx hb dX10_init_87 (by decide) (fun _ => ?_) (fun h9 => absurd h9 (by decide))
  have hP9 : va_P G classes [(h0, .inr (10, [.ref nq1, .ref nq10, .ref nq31, .ref nq40, .ref nq43, .ref nq46, .int 0, .int 0])), (nq1, .inr (7, [.ref xq3, .ref xq4, .ref xq5, .ref xq6, .ref xq7, .int 0])), (xq3, .inl (cy 0, 192, .inl xf8)), (xq4, .inl (cy 0, 40, .inl (fun _ => 0))), (xq5, .inl (cy 0, 40, .inl (fun _ => 0))), (xq6, .inl (cy 0, 40, .inl (fun _ => 0))), (xq7, .inl (cy 0, 40, .inl (fun _ => 0))), (nq10, .inr (2, [.int 5, .int 9, .int 0, .ref xq12, .ref xq13, .ref xq14, .ref xq15])), (xq12, .inl (cy 0, 5, .inl xf25)), (xq13, .inl (cy 0, 5, .inl (fun _ => 0))), (xq14, .inl (cy 3, 3, .inr (.inr (.inr (.inr xg26))))), (xq15, .inl (cy 0, 5, .inl (fun _ => 0))), (xq16, .inr (1, [.ref xq17, .ref xq18, .int 0])), (xq17, .inl (cy 0, 48, .inl (fun _ => 0))), (xq18, .inl (cy 0, 48, .inl (fun _ => 0))), (xq19, .inr (1, [.ref xq20, .ref xq21, .int 0])), (xq20, .inl (cy 0, 48, .inl (fun _ => 0))), (xq21, .inl (cy 0, 48, .inl (fun _ => 0))), (xq22, .inr (1, [.ref xq23, .ref xq24, .int 0])), (xq23, .inl (cy 0, 48, .inl (fun _ => 0))), (xq24, .inl (cy 0, 48, .inl (fun _ => 0))), (nq31, .inr (3, [.ref xq33, .ref xq34, .ref xq35, .int 0, .ref xq36, .ref xq37, .int 0, .int 0, .int 0])), (xq33, .inl (cy 0, 7, .inl (fun _ => 0))), (xq34, .inl (cy 0, 7, .inl (fun _ => 0))), (xq35, .inl (cy 0, 7, .inl (fun _ => 0))), (xq36, .inr (5, [.ref xq38, .int 0])), (xq38, .inl (cy 0, 7, .inl (fun _ => 0))), (xq37, .inr (5, [.ref xq39, .int 0])), (xq39, .inl (cy 0, 7, .inl (fun _ => 0))), (nq40, .inr (5, [.ref xq42, .int 0])), (xq42, .inl (cy 0, 48, .inl (fun _ => 0))), (nq43, .inr (5, [.ref xq45, .int 0])), (xq45, .inl (cy 0, 24, .inl (fun _ => 0))), (nq46, .inl (cy 4, 8, .inr (.inr (.inr (.inr (va_up (va_up (va_up (va_up (va_up (va_up (va_up (va_up (fun _ => none) 0 (some nq47)) 1 (some nq51)) 2 (some nq55)) 3 (some nq59)) 4 (some nq63)) 5 (some nq67)) 6 (some nq71)) 7 (some nq75))))))), (nq47, .inr (9, [.int 0, .int 0, .int 0, .int 5, .int 60, .int 0, .int 0, .int 0, .int 0, .ref xq49, .ref xq50])), (xq49, .inl (cy 0, 192, .inl (fun _ => 0))), (xq50, .inl (cy 0, 192, .inl (fun _ => 0))), (nq51, .inr (9, [.int 0, .int 0, .int 0, .int 5, .int 60, .int 0, .int 0, .int 0, .int 0, .ref xq53, .ref xq54])), (xq53, .inl (cy 0, 192, .inl (fun _ => 0))), (xq54, .inl (cy 0, 192, .inl (fun _ => 0))), (nq55, .inr (9, [.int 0, .int 0, .int 0, .int 5, .int 60, .int 0, .int 0, .int 0, .int 0, .ref xq57, .ref xq58])), (xq57, .inl (cy 0, 192, .inl (fun _ => 0))), (xq58, .inl (cy 0, 192, .inl (fun _ => 0))), (nq59, .inr (9, [.int 0, .int 0, .int 0, .int 5, .int 60, .int 0, .int 0, .int 0, .int 0, .ref xq61, .ref xq62])), (xq61, .inl (cy 0, 192, .inl (fun _ => 0))), (xq62, .inl (cy 0, 192, .inl (fun _ => 0))), (nq63, .inr (9, [.int 0, .int 0, .int 0, .int 5, .int 60, .int 0, .int 0, .int 0, .int 0, .ref xq65, .ref xq66])), (xq65, .inl (cy 0, 192, .inl (fun _ => 0))), (xq66, .inl (cy 0, 192, .inl (fun _ => 0))), (nq67, .inr (9, [.int 0, .int 0, .int 0, .int 5, .int 60, .int 0, .int 0, .int 0, .int 0, .ref xq69, .ref xq70])), (xq69, .inl (cy 0, 192, .inl (fun _ => 0))), (xq70, .inl (cy 0, 192, .inl (fun _ => 0))), (nq71, .inr (9, [.int 0, .int 0, .int 0, .int 5, .int 60, .int 0, .int 0, .int 0, .int 0, .ref xq73, .ref xq74])), (xq73, .inl (cy 0, 192, .inl (fun _ => 0))), (xq74, .inl (cy 0, 192, .inl (fun _ => 0))), (nq75, .inr (9, [.int 0, .int 0, .int 0, .int 5, .int 60, .int 0, .int 0, .int 0, .int 0, .ref xq77, .ref xq78])), (xq77, .inl (cy 0, 192, .inl (fun _ => 0))), (xq78, .inl (cy 0, 192, .inl (fun _ => 0)))] H := hP
  have hD9 : va_D A [(h0, .inr (10, [.ref nq1, .ref nq10, .ref nq31, .ref nq40, .ref nq43, .ref nq46, .int 0, .int 0])), (nq1, .inr (7, [.ref xq3, .ref xq4, .ref xq5, .ref xq6, .ref xq7, .int 0])), (xq3, .inl (cy 0, 192, .inl xf8)), (xq4, .inl (cy 0, 40, .inl (fun _ => 0))), (xq5, .inl (cy 0, 40, .inl (fun _ => 0))), (xq6, .inl (cy 0, 40, .inl (fun _ => 0))), (xq7, .inl (cy 0, 40, .inl (fun _ => 0))), (nq10, .inr (2, [.int 5, .int 9, .int 0, .ref xq12, .ref xq13, .ref xq14, .ref xq15])), (xq12, .inl (cy 0, 5, .inl xf25)), (xq13, .inl (cy 0, 5, .inl (fun _ => 0))), (xq14, .inl (cy 3, 3, .inr (.inr (.inr (.inr xg26))))), (xq15, .inl (cy 0, 5, .inl (fun _ => 0))), (xq16, .inr (1, [.ref xq17, .ref xq18, .int 0])), (xq17, .inl (cy 0, 48, .inl (fun _ => 0))), (xq18, .inl (cy 0, 48, .inl (fun _ => 0))), (xq19, .inr (1, [.ref xq20, .ref xq21, .int 0])), (xq20, .inl (cy 0, 48, .inl (fun _ => 0))), (xq21, .inl (cy 0, 48, .inl (fun _ => 0))), (xq22, .inr (1, [.ref xq23, .ref xq24, .int 0])), (xq23, .inl (cy 0, 48, .inl (fun _ => 0))), (xq24, .inl (cy 0, 48, .inl (fun _ => 0))), (nq31, .inr (3, [.ref xq33, .ref xq34, .ref xq35, .int 0, .ref xq36, .ref xq37, .int 0, .int 0, .int 0])), (xq33, .inl (cy 0, 7, .inl (fun _ => 0))), (xq34, .inl (cy 0, 7, .inl (fun _ => 0))), (xq35, .inl (cy 0, 7, .inl (fun _ => 0))), (xq36, .inr (5, [.ref xq38, .int 0])), (xq38, .inl (cy 0, 7, .inl (fun _ => 0))), (xq37, .inr (5, [.ref xq39, .int 0])), (xq39, .inl (cy 0, 7, .inl (fun _ => 0))), (nq40, .inr (5, [.ref xq42, .int 0])), (xq42, .inl (cy 0, 48, .inl (fun _ => 0))), (nq43, .inr (5, [.ref xq45, .int 0])), (xq45, .inl (cy 0, 24, .inl (fun _ => 0))), (nq46, .inl (cy 4, 8, .inr (.inr (.inr (.inr (va_up (va_up (va_up (va_up (va_up (va_up (va_up (va_up (fun _ => none) 0 (some nq47)) 1 (some nq51)) 2 (some nq55)) 3 (some nq59)) 4 (some nq63)) 5 (some nq67)) 6 (some nq71)) 7 (some nq75))))))), (nq47, .inr (9, [.int 0, .int 0, .int 0, .int 5, .int 60, .int 0, .int 0, .int 0, .int 0, .ref xq49, .ref xq50])), (xq49, .inl (cy 0, 192, .inl (fun _ => 0))), (xq50, .inl (cy 0, 192, .inl (fun _ => 0))), (nq51, .inr (9, [.int 0, .int 0, .int 0, .int 5, .int 60, .int 0, .int 0, .int 0, .int 0, .ref xq53, .ref xq54])), (xq53, .inl (cy 0, 192, .inl (fun _ => 0))), (xq54, .inl (cy 0, 192, .inl (fun _ => 0))), (nq55, .inr (9, [.int 0, .int 0, .int 0, .int 5, .int 60, .int 0, .int 0, .int 0, .int 0, .ref xq57, .ref xq58])), (xq57, .inl (cy 0, 192, .inl (fun _ => 0))), (xq58, .inl (cy 0, 192, .inl (fun _ => 0))), (nq59, .inr (9, [.int 0, .int 0, .int 0, .int 5, .int 60, .int 0, .int 0, .int 0, .int 0, .ref xq61, .ref xq62])), (xq61, .inl (cy 0, 192, .inl (fun _ => 0))), (xq62, .inl (cy 0, 192, .inl (fun _ => 0))), (nq63, .inr (9, [.int 0, .int 0, .int 0, .int 5, .int 60, .int 0, .int 0, .int 0, .int 0, .ref xq65, .ref xq66])), (xq65, .inl (cy 0, 192, .inl (fun _ => 0))), (xq66, .inl (cy 0, 192, .inl (fun _ => 0))), (nq67, .inr (9, [.int 0, .int 0, .int 0, .int 5, .int 60, .int 0, .int 0, .int 0, .int 0, .ref xq69, .ref xq70])), (xq69, .inl (cy 0, 192, .inl (fun _ => 0))), (xq70, .inl (cy 0, 192, .inl (fun _ => 0))), (nq71, .inr (9, [.int 0, .int 0, .int 0, .int 5, .int 60, .int 0, .int 0, .int 0, .int 0, .ref xq73, .ref xq74])), (xq73, .inl (cy 0, 192, .inl (fun _ => 0))), (xq74, .inl (cy 0, 192, .inl (fun _ => 0))), (nq75, .inr (9, [.int 0, .int 0, .int 0, .int 5, .int 60, .int 0, .int 0, .int 0, .int 0, .ref xq77, .ref xq78])), (xq77, .inl (cy 0, 192, .inl (fun _ => 0))), (xq78, .inl (cy 0, 192, .inl (fun _ => 0)))] := hD
  refine W.widen (k := 57) (n := 4286) (by first | exact Nat.le_of_ble_eq_true rfl | omega) (by first | exact Nat.le_of_ble_eq_true rfl | omega) ?_
  exact W.vret hx hb hr (fun t ht hW => ⟨⟨(), rfl, trivial, by dsimp only; rw [ht]; exact ⟨nq1, xq3, xq4, xq5, xq6, xq7, nq10, xq12, xq13, xq14, xq15, xq16, xq17, xq18, xq19, xq20, xq21, xq22, xq23, xq24, nq31, xq33, xq34, xq35, xq36, xq37, xq38, xq39, nq40, xq42, nq43, xq45, nq46, nq47, xq49, xq50, nq51, xq53, xq54, nq55, xq57, xq58, nq59, xq61, xq62, nq63, xq65, xq66, nq67, xq69, xq70, nq71, xq73, xq74, nq75, xq77, xq78, xf8, xf25, xg26, (va_up (va_up (va_up (va_up (va_up (va_up (va_up (va_up (fun _ => none) 0 (some nq47)) 1 (some nq51)) 2 (some nq55)) 3 (some nq59)) 4 (some nq63)) 5 (some nq67)) 6 (some nq71)) 7 (some nq75)), h_27, h_28, h_29, rfl, rfl, rfl, rfl, rfl, rfl, rfl, rfl, h_9, h_30, hP9, hD9⟩⟩, hS.F ht⟩) hS.2.2 dX10_init_109
end
section
/-! words of the tables that are used, by their places; decode rows; classes -/
set_option maxRecDepth 20000 in
theorem m_106 : Cond.methodLink RX11 1 Lib.objectInit ∈ BASE := bmT1 28 rfl rfl
set_option maxRecDepth 20000 in
theorem m_109 : Cond.classLink RX11 7 RX10 ∈ BASE := bmT1 31 rfl rfl
set_option maxRecDepth 20000 in
theorem m_111 : Cond.methodLink RX11 9 yX10_init ∈ BASE := bmT1 33 rfl rfl
set_option maxRecDepth 20000 in
theorem m_112 : Cond.instanceMethod yX10_init ∈ BASE := bmT1 34 rfl rfl
set_option maxRecDepth 20000 in
theorem m_113 : Cond.code yX10_init cX10_init 2 none ∈ BASE := bmT1 35 rfl rfl
set_option maxRecDepth 20000 in
theorem m_345 : Cond.classLink RX11 22 RX6 ∈ BASE := bmT2 27 rfl rfl
set_option maxRecDepth 20000 in
theorem m_347 : Cond.classLink RX11 32 RX4 ∈ BASE := bmT2 29 rfl rfl
set_option maxRecDepth 20000 in
theorem m_350 : Cond.instanceMethod yX4_init ∈ BASE := bmT2 32 rfl rfl
set_option maxRecDepth 20000 in
theorem m_351 : Cond.code yX4_init cX4_init 1 none ∈ BASE := bmT2 33 rfl rfl
set_option maxRecDepth 20000 in
theorem m_382 : Cond.classLink RX11 39 RX0 ∈ BASE := bmT2 64 rfl rfl
set_option maxRecDepth 20000 in
theorem m_385 : Cond.instanceMethod yX0_init ∈ BASE := bmT2 67 rfl rfl
set_option maxRecDepth 20000 in
theorem m_386 : Cond.code yX0_init cX0_init 1 none ∈ BASE := bmT2 68 rfl rfl
set_option maxRecDepth 20000 in
theorem m_411 : Cond.classLink RX11 46 RX8 ∈ BASE := bmT2 93 rfl rfl
set_option maxRecDepth 20000 in
theorem m_414 : Cond.instanceMethod yX8_init ∈ BASE := bmT2 96 rfl rfl
set_option maxRecDepth 20000 in
theorem m_415 : Cond.code yX8_init cX8_init 1 none ∈ BASE := bmT2 97 rfl rfl
set_option maxRecDepth 20000 in
theorem m_442 : Cond.instanceMethod yX6_init ∈ BASE := bmT2 124 rfl rfl
set_option maxRecDepth 20000 in
theorem m_443 : Cond.code yX6_init cX6_init 1 none ∈ BASE := bmT2 125 rfl rfl
theorem kI_X0_init : KI yX0_init cX0_init 1 0 := ⟨m_385, rfl, m_89, m_386, nhM_11, nhV_11, pdn_30⟩
theorem kI_X10_init : KI yX10_init cX10_init 2 0 := ⟨m_112, rfl, m_80, m_113, nhM_7, nhV_7, pdn_30⟩
theorem kI_X4_init : KI yX4_init cX4_init 1 0 := ⟨m_350, rfl, m_88, m_351, nhM_16, nhV_16, pdn_30⟩
theorem kI_X6_init : KI yX6_init cX6_init 1 0 := ⟨m_442, rfl, m_91, m_443, nhM_4, nhV_4, pdn_30⟩
theorem kI_X8_init : KI yX8_init cX8_init 1 0 := ⟨m_414, rfl, m_90, m_415, nhM_12, nhV_12, pdn_30⟩
theorem df11 : ∀ j, j < 9 → defaultValue (tyX11 j) = vp_V [.null, .null, .null, .null, .null, .null, .null, .null, .int 0] j := fun j hj => by rcases (show j = 0 ∨ j = 1 ∨ j = 2 ∨ j = 3 ∨ j = 4 ∨ j = 5 ∨ j = 6 ∨ j = 7 ∨ j = 8 by omega) with rfl | rfl | rfl | rfl | rfl | rfl | rfl | rfl | rfl <;> rfl
/-! decode rows -/
theorem dX11_init_0 : decode cX11_init 0 = .ok (.aload_n 0, 1) := by decide +kernel
theorem dX11_init_1 : decode cX11_init 1 = .ok (.invokespecial 1, 3) := by decide +kernel
theorem dX11_init_4 : decode cX11_init 4 = .ok (.aload_n 0, 1) := by decide +kernel
theorem dX11_init_5 : decode cX11_init 5 = .ok (.new 7, 3) := by decide +kernel
theorem dX11_init_8 : decode cX11_init 8 = .ok (.dup, 1) := by decide +kernel
theorem dX11_init_9 : decode cX11_init 9 = .ok (.invokespecial 9, 3) := by decide +kernel
theorem dX11_init_12 : decode cX11_init 12 = .ok (.putfield 10, 3) := by decide +kernel
theorem dX11_init_15 : decode cX11_init 15 = .ok (.aload_n 0, 1) := by decide +kernel
theorem dX11_init_16 : decode cX11_init 16 = .ok (.new 7, 3) := by decide +kernel
theorem dX11_init_19 : decode cX11_init 19 = .ok (.dup, 1) := by decide +kernel
theorem dX11_init_20 : decode cX11_init 20 = .ok (.invokespecial 9, 3) := by decide +kernel
theorem dX11_init_23 : decode cX11_init 23 = .ok (.putfield 16, 3) := by decide +kernel
theorem dX11_init_26 : decode cX11_init 26 = .ok (.aload_n 0, 1) := by decide +kernel
theorem dX11_init_27 : decode cX11_init 27 = .ok (.new 7, 3) := by decide +kernel
theorem dX11_init_30 : decode cX11_init 30 = .ok (.dup, 1) := by decide +kernel
theorem dX11_init_31 : decode cX11_init 31 = .ok (.invokespecial 9, 3) := by decide +kernel
theorem dX11_init_34 : decode cX11_init 34 = .ok (.putfield 19, 3) := by decide +kernel
theorem dX11_init_37 : decode cX11_init 37 = .ok (.aload_n 0, 1) := by decide +kernel
theorem dX11_init_38 : decode cX11_init 38 = .ok (.iconst 4, 1) := by decide +kernel
theorem dX11_init_39 : decode cX11_init 39 = .ok (.anewarray 22, 3) := by decide +kernel
theorem dX11_init_42 : decode cX11_init 42 = .ok (.putfield 24, 3) := by decide +kernel
theorem dX11_init_45 : decode cX11_init 45 = .ok (.aload_n 0, 1) := by decide +kernel
theorem dX11_init_46 : decode cX11_init 46 = .ok (.bipush 7, 2) := by decide +kernel
theorem dX11_init_48 : decode cX11_init 48 = .ok (.newarray .int, 2) := by decide +kernel
theorem dX11_init_50 : decode cX11_init 50 = .ok (.putfield 28, 3) := by decide +kernel
theorem dX11_init_53 : decode cX11_init 53 = .ok (.aload_n 0, 1) := by decide +kernel
theorem dX11_init_54 : decode cX11_init 54 = .ok (.new 32, 3) := by decide +kernel
theorem dX11_init_57 : decode cX11_init 57 = .ok (.dup, 1) := by decide +kernel
theorem dX11_init_58 : decode cX11_init 58 = .ok (.invokespecial 34, 3) := by decide +kernel
theorem dX11_init_61 : decode cX11_init 61 = .ok (.putfield 35, 3) := by decide +kernel
theorem dX11_init_64 : decode cX11_init 64 = .ok (.aload_n 0, 1) := by decide +kernel
theorem dX11_init_65 : decode cX11_init 65 = .ok (.new 39, 3) := by decide +kernel
theorem dX11_init_68 : decode cX11_init 68 = .ok (.dup, 1) := by decide +kernel
theorem dX11_init_69 : decode cX11_init 69 = .ok (.invokespecial 41, 3) := by decide +kernel
theorem dX11_init_72 : decode cX11_init 72 = .ok (.putfield 42, 3) := by decide +kernel
theorem dX11_init_75 : decode cX11_init 75 = .ok (.aload_n 0, 1) := by decide +kernel
theorem dX11_init_76 : decode cX11_init 76 = .ok (.new 46, 3) := by decide +kernel
theorem dX11_init_79 : decode cX11_init 79 = .ok (.dup, 1) := by decide +kernel
theorem dX11_init_80 : decode cX11_init 80 = .ok (.invokespecial 48, 3) := by decide +kernel
theorem dX11_init_83 : decode cX11_init 83 = .ok (.putfield 49, 3) := by decide +kernel
theorem dX11_init_86 : decode cX11_init 86 = .ok (.aload_n 0, 1) := by decide +kernel
theorem dX11_init_87 : decode cX11_init 87 = .ok (.iconst 0, 1) := by decide +kernel
theorem dX11_init_88 : decode cX11_init 88 = .ok (.putfield 53, 3) := by decide +kernel
theorem dX11_init_91 : decode cX11_init 91 = .ok (.iconst 0, 1) := by decide +kernel
theorem dX11_init_92 : decode cX11_init 92 = .ok (.istore_n 1, 1) := by decide +kernel
theorem dX11_init_93 : decode cX11_init 93 = .ok (.iload_n 1, 1) := by decide +kernel
theorem dX11_init_94 : decode cX11_init 94 = .ok (.iconst 4, 1) := by decide +kernel
theorem dX11_init_95 : decode cX11_init 95 = .ok (.if_icmp .ge 22, 3) := by decide +kernel
theorem dX11_init_98 : decode cX11_init 98 = .ok (.aload_n 0, 1) := by decide +kernel
theorem dX11_init_99 : decode cX11_init 99 = .ok (.getfield 24, 3) := by decide +kernel
theorem dX11_init_102 : decode cX11_init 102 = .ok (.iload_n 1, 1) := by decide +kernel
theorem dX11_init_103 : decode cX11_init 103 = .ok (.new 22, 3) := by decide +kernel
theorem dX11_init_106 : decode cX11_init 106 = .ok (.dup, 1) := by decide +kernel
theorem dX11_init_107 : decode cX11_init 107 = .ok (.invokespecial 57, 3) := by decide +kernel
theorem dX11_init_110 : decode cX11_init 110 = .ok (.aastore, 1) := by decide +kernel
theorem dX11_init_111 : decode cX11_init 111 = .ok (.iinc 1 1, 3) := by decide +kernel
theorem dX11_init_114 : decode cX11_init 114 = .ok (.goto (-21), 3) := by decide +kernel
theorem dX11_init_117 : decode cX11_init 117 = .ok (.return_, 1) := by decide +kernel
end
section
set_option maxRecDepth 400000 in
def B_c_X11_init (G : va_G) (cy : Nat → ClassId) (sk : Nat → Nat) (A : Nat → Prop) (h0 : Nat) (H : Heap) : Prop := ∃ (lv : Nat) (klv : Nat) (zlv : Nat) (sh : Nat) (er : Nat) (re : Nat) (fi : Nat) (vo : Nat) (st : Nat) (oc : Nat) (ki : Nat) (ce : Nat) (si : Nat) (sp : Nat) (la : Nat) (ld : Nat) (sr : Nat) (tx : Nat) (vl : Nat) (f0 : Nat) (c0 : Nat) (k0 : Nat) (f1 : Nat) (c1 : Nat) (k1 : Nat) (f2 : Nat) (c2 : Nat) (k2 : Nat) (le : Nat) (te : Nat) (ne : Nat) (mi : Nat) (tr : Nat) (be : Nat) (rta7 : Nat) (rba7 : Nat) (ta : Nat) (rta : Nat) (wa : Nat) (rwa : Nat) (wk : Nat) (w0 : Nat) (wy0 : Nat) (wn0 : Nat) (w1 : Nat) (wy1 : Nat) (wn1 : Nat) (w2 : Nat) (wy2 : Nat) (wn2 : Nat) (w3 : Nat) (wy3 : Nat) (wn3 : Nat) (w4 : Nat) (wy4 : Nat) (wn4 : Nat) (w5 : Nat) (wy5 : Nat) (wn5 : Nat) (w6 : Nat) (wy6 : Nat) (wn6 : Nat) (w7 : Nat) (wy7 : Nat) (wn7 : Nat) (foc : Nat → Int32) (fl : Nat → Int32) (gt : Nat → Option Nat) (gw : Nat → Option Nat) (kst : Nat) (koc : Nat) (kki : Nat) (kce : Nat) (ksi : Nat) (ksp : Nat) (kla : Nat) (kld : Nat) (ksr : Nat) (ktx : Nat) (kvl : Nat) (kf0 : Nat) (kc0 : Nat) (kk0 : Nat) (kf1 : Nat) (kc1 : Nat) (kk1 : Nat) (kf2 : Nat) (kc2 : Nat) (kk2 : Nat) (kle : Nat) (kte : Nat) (kne : Nat) (kmi : Nat) (ktr : Nat) (kbe : Nat) (krta7 : Nat) (krba7 : Nat) (kta : Nat) (krta : Nat) (kwa : Nat) (krwa : Nat) (kwk : Nat) (kw0 : Nat) (kwy0 : Nat) (kwn0 : Nat) (kw1 : Nat) (kwy1 : Nat) (kwn1 : Nat) (kw2 : Nat) (kwy2 : Nat) (kwn2 : Nat) (kw3 : Nat) (kwy3 : Nat) (kwn3 : Nat) (kw4 : Nat) (kwy4 : Nat) (kwn4 : Nat) (kw5 : Nat) (kwy5 : Nat) (kwn5 : Nat) (kw6 : Nat) (kwy6 : Nat) (kwn6 : Nat) (kw7 : Nat) (kwy7 : Nat) (kwn7 : Nat) (kfoc : Nat → Int32) (kfl : Nat → Int32) (kgt : Nat → Option Nat) (kgw : Nat → Option Nat) (zst : Nat) (zoc : Nat) (zki : Nat) (zce : Nat) (zsi : Nat) (zsp : Nat) (zla : Nat) (zld : Nat) (zsr : Nat) (ztx : Nat) (zvl : Nat) (zf0 : Nat) (zc0 : Nat) (zk0 : Nat) (zf1 : Nat) (zc1 : Nat) (zk1 : Nat) (zf2 : Nat) (zc2 : Nat) (zk2 : Nat) (zle : Nat) (zte : Nat) (zne : Nat) (zmi : Nat) (ztr : Nat) (zbe : Nat) (zrta7 : Nat) (zrba7 : Nat) (zta : Nat) (zrta : Nat) (zwa : Nat) (zrwa : Nat) (zwk : Nat) (zw0 : Nat) (zwy0 : Nat) (zwn0 : Nat) (zw1 : Nat) (zwy1 : Nat) (zwn1 : Nat) (zw2 : Nat) (zwy2 : Nat) (zwn2 : Nat) (zw3 : Nat) (zwy3 : Nat) (zwn3 : Nat) (zw4 : Nat) (zwy4 : Nat) (zwn4 : Nat) (zw5 : Nat) (zwy5 : Nat) (zwn5 : Nat) (zw6 : Nat) (zwy6 : Nat) (zwn6 : Nat) (zw7 : Nat) (zwy7 : Nat) (zwn7 : Nat) (zfoc : Nat → Int32) (zfl : Nat → Int32) (zgt : Nat → Option Nat) (zgw : Nat → Option Nat) (s0 : Nat) (u0 : Nat) (s1 : Nat) (u1 : Nat) (s2 : Nat) (u2 : Nat) (s3 : Nat) (u3 : Nat) (gs : Nat → Option Nat) (dr : Nat) (t0 : Nat) (co : Nat) (ck : Nat) (t0a : Nat) (nm : Nat) (fc : Nat) (fd_ : Nat) (fl_ : Nat) (fh : Nat) (bg : Nat) (bga : Nat) (vt : Nat) (vta : Nat), (gt 0 = some f0) ∧ (gt 1 = some f1) ∧ (gt 2 = some f2) ∧ (gw 0 = some w0) ∧ (gw 1 = some w1) ∧ (gw 2 = some w2) ∧ (gw 3 = some w3) ∧ (gw 4 = some w4) ∧ (gw 5 = some w5) ∧ (gw 6 = some w6) ∧ (gw 7 = some w7) ∧ (∀ j, j < 192 → foc j = (-1)) ∧ (∀ j, j < 5 → fl j = 50) ∧ (kgt 0 = some kf0) ∧ (kgt 1 = some kf1) ∧ (kgt 2 = some kf2) ∧ (kgw 0 = some kw0) ∧ (kgw 1 = some kw1) ∧ (kgw 2 = some kw2) ∧ (kgw 3 = some kw3) ∧ (kgw 4 = some kw4) ∧ (kgw 5 = some kw5) ∧ (kgw 6 = some kw6) ∧ (kgw 7 = some kw7) ∧ (∀ j, j < 192 → kfoc j = (-1)) ∧ (∀ j, j < 5 → kfl j = 50) ∧ (zgt 0 = some zf0) ∧ (zgt 1 = some zf1) ∧ (zgt 2 = some zf2) ∧ (zgw 0 = some zw0) ∧ (zgw 1 = some zw1) ∧ (zgw 2 = some zw2) ∧ (zgw 3 = some zw3) ∧ (zgw 4 = some zw4) ∧ (zgw 5 = some zw5) ∧ (zgw 6 = some zw6) ∧ (zgw 7 = some zw7) ∧ (∀ j, j < 192 → zfoc j = (-1)) ∧ (∀ j, j < 5 → zfl j = 50) ∧ (gs 0 = some s0) ∧ (gs 1 = some s1) ∧ (gs 2 = some s2) ∧ (gs 3 = some s3) ∧ (nm = (sk 0)) ∧ va_P G classes [(s3, .inr (6, [.int 0, .int 0, .ref u3])), (u3, .inl (cy 0, 24, .inl (fun _ => 0))), (s2, .inr (6, [.int 0, .int 0, .ref u2])), (u2, .inl (cy 0, 24, .inl (fun _ => 0))), (s1, .inr (6, [.int 0, .int 0, .ref u1])), (u1, .inl (cy 0, 24, .inl (fun _ => 0))), (s0, .inr (6, [.int 0, .int 0, .ref u0])), (u0, .inl (cy 0, 24, .inl (fun _ => 0))), (er, .inl (cy 0, 7, .inl (fun _ => 0))), (sh, .inl (cy 5, 4, .inr (.inr (.inr (.inr gs))))), (h0, .inr (11, [.ref lv, .ref klv, .ref zlv, .ref sh, .ref er, .ref re, .ref fi, .ref vo, .int 0])), (lv, .inr (10, [.ref st, .ref la, .ref le, .ref ta, .ref wa, .ref wk, .int 0, .int 0])), (st, .inr (7, [.ref oc, .ref ki, .ref ce, .ref si, .ref sp, .int 0])), (oc, .inl (cy 0, 192, .inl foc)), (ki, .inl (cy 0, 40, .inl (fun _ => 0))), (ce, .inl (cy 0, 40, .inl (fun _ => 0))), (si, .inl (cy 0, 40, .inl (fun _ => 0))), (sp, .inl (cy 0, 40, .inl (fun _ => 0))), (la, .inr (2, [.int 5, .int 9, .int 0, .ref ld, .ref sr, .ref tx, .ref vl])), (ld, .inl (cy 0, 5, .inl fl)), (sr, .inl (cy 0, 5, .inl (fun _ => 0))), (tx, .inl (cy 3, 3, .inr (.inr (.inr (.inr gt))))), (vl, .inl (cy 0, 5, .inl (fun _ => 0))), (f0, .inr (1, [.ref c0, .ref k0, .int 0])), (c0, .inl (cy 0, 48, .inl (fun _ => 0))), (k0, .inl (cy 0, 48, .inl (fun _ => 0))), (f1, .inr (1, [.ref c1, .ref k1, .int 0])), (c1, .inl (cy 0, 48, .inl (fun _ => 0))), (k1, .inl (cy 0, 48, .inl (fun _ => 0))), (f2, .inr (1, [.ref c2, .ref k2, .int 0])), (c2, .inl (cy 0, 48, .inl (fun _ => 0))), (k2, .inl (cy 0, 48, .inl (fun _ => 0))), (le, .inr (3, [.ref te, .ref ne, .ref mi, .int 0, .ref tr, .ref be, .int 0, .int 0, .int 0])), (te, .inl (cy 0, 7, .inl (fun _ => 0))), (ne, .inl (cy 0, 7, .inl (fun _ => 0))), (mi, .inl (cy 0, 7, .inl (fun _ => 0))), (tr, .inr (5, [.ref rta7, .int 0])), (rta7, .inl (cy 0, 7, .inl (fun _ => 0))), (be, .inr (5, [.ref rba7, .int 0])), (rba7, .inl (cy 0, 7, .inl (fun _ => 0))), (ta, .inr (5, [.ref rta, .int 0])), (rta, .inl (cy 0, 48, .inl (fun _ => 0))), (wa, .inr (5, [.ref rwa, .int 0])), (rwa, .inl (cy 0, 24, .inl (fun _ => 0))), (wk, .inl (cy 4, 8, .inr (.inr (.inr (.inr gw))))), (w0, .inr (9, [.int 0, .int 0, .int 0, .int 5, .int 60, .int 0, .int 0, .int 0, .int 0, .ref wy0, .ref wn0])), (wy0, .inl (cy 0, 192, .inl (fun _ => 0))), (wn0, .inl (cy 0, 192, .inl (fun _ => 0))), (w1, .inr (9, [.int 0, .int 0, .int 0, .int 5, .int 60, .int 0, .int 0, .int 0, .int 0, .ref wy1, .ref wn1])), (wy1, .inl (cy 0, 192, .inl (fun _ => 0))), (wn1, .inl (cy 0, 192, .inl (fun _ => 0))), (w2, .inr (9, [.int 0, .int 0, .int 0, .int 5, .int 60, .int 0, .int 0, .int 0, .int 0, .ref wy2, .ref wn2])), (wy2, .inl (cy 0, 192, .inl (fun _ => 0))), (wn2, .inl (cy 0, 192, .inl (fun _ => 0))), (w3, .inr (9, [.int 0, .int 0, .int 0, .int 5, .int 60, .int 0, .int 0, .int 0, .int 0, .ref wy3, .ref wn3])), (wy3, .inl (cy 0, 192, .inl (fun _ => 0))), (wn3, .inl (cy 0, 192, .inl (fun _ => 0))), (w4, .inr (9, [.int 0, .int 0, .int 0, .int 5, .int 60, .int 0, .int 0, .int 0, .int 0, .ref wy4, .ref wn4])), (wy4, .inl (cy 0, 192, .inl (fun _ => 0))), (wn4, .inl (cy 0, 192, .inl (fun _ => 0))), (w5, .inr (9, [.int 0, .int 0, .int 0, .int 5, .int 60, .int 0, .int 0, .int 0, .int 0, .ref wy5, .ref wn5])), (wy5, .inl (cy 0, 192, .inl (fun _ => 0))), (wn5, .inl (cy 0, 192, .inl (fun _ => 0))), (w6, .inr (9, [.int 0, .int 0, .int 0, .int 5, .int 60, .int 0, .int 0, .int 0, .int 0, .ref wy6, .ref wn6])), (wy6, .inl (cy 0, 192, .inl (fun _ => 0))), (wn6, .inl (cy 0, 192, .inl (fun _ => 0))), (w7, .inr (9, [.int 0, .int 0, .int 0, .int 5, .int 60, .int 0, .int 0, .int 0, .int 0, .ref wy7, .ref wn7])), (wy7, .inl (cy 0, 192, .inl (fun _ => 0))), (wn7, .inl (cy 0, 192, .inl (fun _ => 0))), (klv, .inr (10, [.ref kst, .ref kla, .ref kle, .ref kta, .ref kwa, .ref kwk, .int 0, .int 0])), (kst, .inr (7, [.ref koc, .ref kki, .ref kce, .ref ksi, .ref ksp, .int 0])), (koc, .inl (cy 0, 192, .inl kfoc)), (kki, .inl (cy 0, 40, .inl (fun _ => 0))), (kce, .inl (cy 0, 40, .inl (fun _ => 0))), (ksi, .inl (cy 0, 40, .inl (fun _ => 0))), (ksp, .inl (cy 0, 40, .inl (fun _ => 0))), (kla, .inr (2, [.int 5, .int 9, .int 0, .ref kld, .ref ksr, .ref ktx, .ref kvl])), (kld, .inl (cy 0, 5, .inl kfl)), (ksr, .inl (cy 0, 5, .inl (fun _ => 0))), (ktx, .inl (cy 3, 3, .inr (.inr (.inr (.inr kgt))))), (kvl, .inl (cy 0, 5, .inl (fun _ => 0))), (kf0, .inr (1, [.ref kc0, .ref kk0, .int 0])), (kc0, .inl (cy 0, 48, .inl (fun _ => 0))), (kk0, .inl (cy 0, 48, .inl (fun _ => 0))), (kf1, .inr (1, [.ref kc1, .ref kk1, .int 0])), (kc1, .inl (cy 0, 48, .inl (fun _ => 0))), (kk1, .inl (cy 0, 48, .inl (fun _ => 0))), (kf2, .inr (1, [.ref kc2, .ref kk2, .int 0])), (kc2, .inl (cy 0, 48, .inl (fun _ => 0))), (kk2, .inl (cy 0, 48, .inl (fun _ => 0))), (kle, .inr (3, [.ref kte, .ref kne, .ref kmi, .int 0, .ref ktr, .ref kbe, .int 0, .int 0, .int 0])), (kte, .inl (cy 0, 7, .inl (fun _ => 0))), (kne, .inl (cy 0, 7, .inl (fun _ => 0))), (kmi, .inl (cy 0, 7, .inl (fun _ => 0))), (ktr, .inr (5, [.ref krta7, .int 0])), (krta7, .inl (cy 0, 7, .inl (fun _ => 0))), (kbe, .inr (5, [.ref krba7, .int 0])), (krba7, .inl (cy 0, 7, .inl (fun _ => 0))), (kta, .inr (5, [.ref krta, .int 0])), (krta, .inl (cy 0, 48, .inl (fun _ => 0))), (kwa, .inr (5, [.ref krwa, .int 0])), (krwa, .inl (cy 0, 24, .inl (fun _ => 0))), (kwk, .inl (cy 4, 8, .inr (.inr (.inr (.inr kgw))))), (kw0, .inr (9, [.int 0, .int 0, .int 0, .int 5, .int 60, .int 0, .int 0, .int 0, .int 0, .ref kwy0, .ref kwn0])), (kwy0, .inl (cy 0, 192, .inl (fun _ => 0))), (kwn0, .inl (cy 0, 192, .inl (fun _ => 0))), (kw1, .inr (9, [.int 0, .int 0, .int 0, .int 5, .int 60, .int 0, .int 0, .int 0, .int 0, .ref kwy1, .ref kwn1])), (kwy1, .inl (cy 0, 192, .inl (fun _ => 0))), (kwn1, .inl (cy 0, 192, .inl (fun _ => 0))), (kw2, .inr (9, [.int 0, .int 0, .int 0, .int 5, .int 60, .int 0, .int 0, .int 0, .int 0, .ref kwy2, .ref kwn2])), (kwy2, .inl (cy 0, 192, .inl (fun _ => 0))), (kwn2, .inl (cy 0, 192, .inl (fun _ => 0))), (kw3, .inr (9, [.int 0, .int 0, .int 0, .int 5, .int 60, .int 0, .int 0, .int 0, .int 0, .ref kwy3, .ref kwn3])), (kwy3, .inl (cy 0, 192, .inl (fun _ => 0))), (kwn3, .inl (cy 0, 192, .inl (fun _ => 0))), (kw4, .inr (9, [.int 0, .int 0, .int 0, .int 5, .int 60, .int 0, .int 0, .int 0, .int 0, .ref kwy4, .ref kwn4])), (kwy4, .inl (cy 0, 192, .inl (fun _ => 0))), (kwn4, .inl (cy 0, 192, .inl (fun _ => 0))), (kw5, .inr (9, [.int 0, .int 0, .int 0, .int 5, .int 60, .int 0, .int 0, .int 0, .int 0, .ref kwy5, .ref kwn5])), (kwy5, .inl (cy 0, 192, .inl (fun _ => 0))), (kwn5, .inl (cy 0, 192, .inl (fun _ => 0))), (kw6, .inr (9, [.int 0, .int 0, .int 0, .int 5, .int 60, .int 0, .int 0, .int 0, .int 0, .ref kwy6, .ref kwn6])), (kwy6, .inl (cy 0, 192, .inl (fun _ => 0))), (kwn6, .inl (cy 0, 192, .inl (fun _ => 0))), (kw7, .inr (9, [.int 0, .int 0, .int 0, .int 5, .int 60, .int 0, .int 0, .int 0, .int 0, .ref kwy7, .ref kwn7])), (kwy7, .inl (cy 0, 192, .inl (fun _ => 0))), (kwn7, .inl (cy 0, 192, .inl (fun _ => 0))), (zlv, .inr (10, [.ref zst, .ref zla, .ref zle, .ref zta, .ref zwa, .ref zwk, .int 0, .int 0])), (zst, .inr (7, [.ref zoc, .ref zki, .ref zce, .ref zsi, .ref zsp, .int 0])), (zoc, .inl (cy 0, 192, .inl zfoc)), (zki, .inl (cy 0, 40, .inl (fun _ => 0))), (zce, .inl (cy 0, 40, .inl (fun _ => 0))), (zsi, .inl (cy 0, 40, .inl (fun _ => 0))), (zsp, .inl (cy 0, 40, .inl (fun _ => 0))), (zla, .inr (2, [.int 5, .int 9, .int 0, .ref zld, .ref zsr, .ref ztx, .ref zvl])), (zld, .inl (cy 0, 5, .inl zfl)), (zsr, .inl (cy 0, 5, .inl (fun _ => 0))), (ztx, .inl (cy 3, 3, .inr (.inr (.inr (.inr zgt))))), (zvl, .inl (cy 0, 5, .inl (fun _ => 0))), (zf0, .inr (1, [.ref zc0, .ref zk0, .int 0])), (zc0, .inl (cy 0, 48, .inl (fun _ => 0))), (zk0, .inl (cy 0, 48, .inl (fun _ => 0))), (zf1, .inr (1, [.ref zc1, .ref zk1, .int 0])), (zc1, .inl (cy 0, 48, .inl (fun _ => 0))), (zk1, .inl (cy 0, 48, .inl (fun _ => 0))), (zf2, .inr (1, [.ref zc2, .ref zk2, .int 0])), (zc2, .inl (cy 0, 48, .inl (fun _ => 0))), (zk2, .inl (cy 0, 48, .inl (fun _ => 0))), (zle, .inr (3, [.ref zte, .ref zne, .ref zmi, .int 0, .ref ztr, .ref zbe, .int 0, .int 0, .int 0])), (zte, .inl (cy 0, 7, .inl (fun _ => 0))), (zne, .inl (cy 0, 7, .inl (fun _ => 0))), (zmi, .inl (cy 0, 7, .inl (fun _ => 0))), (ztr, .inr (5, [.ref zrta7, .int 0])), (zrta7, .inl (cy 0, 7, .inl (fun _ => 0))), (zbe, .inr (5, [.ref zrba7, .int 0])), (zrba7, .inl (cy 0, 7, .inl (fun _ => 0))), (zta, .inr (5, [.ref zrta, .int 0])), (zrta, .inl (cy 0, 48, .inl (fun _ => 0))), (zwa, .inr (5, [.ref zrwa, .int 0])), (zrwa, .inl (cy 0, 24, .inl (fun _ => 0))), (zwk, .inl (cy 4, 8, .inr (.inr (.inr (.inr zgw))))), (zw0, .inr (9, [.int 0, .int 0, .int 0, .int 5, .int 60, .int 0, .int 0, .int 0, .int 0, .ref zwy0, .ref zwn0])), (zwy0, .inl (cy 0, 192, .inl (fun _ => 0))), (zwn0, .inl (cy 0, 192, .inl (fun _ => 0))), (zw1, .inr (9, [.int 0, .int 0, .int 0, .int 5, .int 60, .int 0, .int 0, .int 0, .int 0, .ref zwy1, .ref zwn1])), (zwy1, .inl (cy 0, 192, .inl (fun _ => 0))), (zwn1, .inl (cy 0, 192, .inl (fun _ => 0))), (zw2, .inr (9, [.int 0, .int 0, .int 0, .int 5, .int 60, .int 0, .int 0, .int 0, .int 0, .ref zwy2, .ref zwn2])), (zwy2, .inl (cy 0, 192, .inl (fun _ => 0))), (zwn2, .inl (cy 0, 192, .inl (fun _ => 0))), (zw3, .inr (9, [.int 0, .int 0, .int 0, .int 5, .int 60, .int 0, .int 0, .int 0, .int 0, .ref zwy3, .ref zwn3])), (zwy3, .inl (cy 0, 192, .inl (fun _ => 0))), (zwn3, .inl (cy 0, 192, .inl (fun _ => 0))), (zw4, .inr (9, [.int 0, .int 0, .int 0, .int 5, .int 60, .int 0, .int 0, .int 0, .int 0, .ref zwy4, .ref zwn4])), (zwy4, .inl (cy 0, 192, .inl (fun _ => 0))), (zwn4, .inl (cy 0, 192, .inl (fun _ => 0))), (zw5, .inr (9, [.int 0, .int 0, .int 0, .int 5, .int 60, .int 0, .int 0, .int 0, .int 0, .ref zwy5, .ref zwn5])), (zwy5, .inl (cy 0, 192, .inl (fun _ => 0))), (zwn5, .inl (cy 0, 192, .inl (fun _ => 0))), (zw6, .inr (9, [.int 0, .int 0, .int 0, .int 5, .int 60, .int 0, .int 0, .int 0, .int 0, .ref zwy6, .ref zwn6])), (zwy6, .inl (cy 0, 192, .inl (fun _ => 0))), (zwn6, .inl (cy 0, 192, .inl (fun _ => 0))), (zw7, .inr (9, [.int 0, .int 0, .int 0, .int 5, .int 60, .int 0, .int 0, .int 0, .int 0, .ref zwy7, .ref zwn7])), (zwy7, .inl (cy 0, 192, .inl (fun _ => 0))), (zwn7, .inl (cy 0, 192, .inl (fun _ => 0))), (re, .inr (4, [.ref dr, .ref t0, .ref nm, .int 0, .int (-1), .int 0, .int 0])), (dr, .inr (1, [.ref co, .ref ck, .int 0])), (co, .inl (cy 0, 48, .inl (fun _ => 0))), (ck, .inl (cy 0, 48, .inl (fun _ => 0))), (t0, .inr (5, [.ref t0a, .int 0])), (t0a, .inl (cy 0, 0, .inl (fun _ => 0))), (fi, .inr (0, [.ref fc, .ref fd_, .ref fl_, .ref fh, .int 0, .int 0])), (fc, .inl (cy 0, 192, .inl (fun _ => 0))), (fd_, .inl (cy 1, 192, .inl (fun _ => 0))), (fl_, .inl (cy 2, 24, .inr (.inl (fun _ => 0)))), (fh, .inl (cy 0, 8, .inl (fun _ => 0))), (vo, .inr (8, [.ref bg, .ref vt, .int 0, .int 0, .int 0, .int 0])), (bg, .inr (5, [.ref bga, .int 0])), (bga, .inl (cy 0, 30, .inl (fun _ => 0))), (vt, .inr (5, [.ref vta, .int 0])), (vta, .inl (cy 0, 30, .inl (fun _ => 0)))] H ∧ va_D A [(s3, .inr (6, [.int 0, .int 0, .ref u3])), (u3, .inl (cy 0, 24, .inl (fun _ => 0))), (s2, .inr (6, [.int 0, .int 0, .ref u2])), (u2, .inl (cy 0, 24, .inl (fun _ => 0))), (s1, .inr (6, [.int 0, .int 0, .ref u1])), (u1, .inl (cy 0, 24, .inl (fun _ => 0))), (s0, .inr (6, [.int 0, .int 0, .ref u0])), (u0, .inl (cy 0, 24, .inl (fun _ => 0))), (er, .inl (cy 0, 7, .inl (fun _ => 0))), (sh, .inl (cy 5, 4, .inr (.inr (.inr (.inr gs))))), (h0, .inr (11, [.ref lv, .ref klv, .ref zlv, .ref sh, .ref er, .ref re, .ref fi, .ref vo, .int 0])), (lv, .inr (10, [.ref st, .ref la, .ref le, .ref ta, .ref wa, .ref wk, .int 0, .int 0])), (st, .inr (7, [.ref oc, .ref ki, .ref ce, .ref si, .ref sp, .int 0])), (oc, .inl (cy 0, 192, .inl foc)), (ki, .inl (cy 0, 40, .inl (fun _ => 0))), (ce, .inl (cy 0, 40, .inl (fun _ => 0))), (si, .inl (cy 0, 40, .inl (fun _ => 0))), (sp, .inl (cy 0, 40, .inl (fun _ => 0))), (la, .inr (2, [.int 5, .int 9, .int 0, .ref ld, .ref sr, .ref tx, .ref vl])), (ld, .inl (cy 0, 5, .inl fl)), (sr, .inl (cy 0, 5, .inl (fun _ => 0))), (tx, .inl (cy 3, 3, .inr (.inr (.inr (.inr gt))))), (vl, .inl (cy 0, 5, .inl (fun _ => 0))), (f0, .inr (1, [.ref c0, .ref k0, .int 0])), (c0, .inl (cy 0, 48, .inl (fun _ => 0))), (k0, .inl (cy 0, 48, .inl (fun _ => 0))), (f1, .inr (1, [.ref c1, .ref k1, .int 0])), (c1, .inl (cy 0, 48, .inl (fun _ => 0))), (k1, .inl (cy 0, 48, .inl (fun _ => 0))), (f2, .inr (1, [.ref c2, .ref k2, .int 0])), (c2, .inl (cy 0, 48, .inl (fun _ => 0))), (k2, .inl (cy 0, 48, .inl (fun _ => 0))), (le, .inr (3, [.ref te, .ref ne, .ref mi, .int 0, .ref tr, .ref be, .int 0, .int 0, .int 0])), (te, .inl (cy 0, 7, .inl (fun _ => 0))), (ne, .inl (cy 0, 7, .inl (fun _ => 0))), (mi, .inl (cy 0, 7, .inl (fun _ => 0))), (tr, .inr (5, [.ref rta7, .int 0])), (rta7, .inl (cy 0, 7, .inl (fun _ => 0))), (be, .inr (5, [.ref rba7, .int 0])), (rba7, .inl (cy 0, 7, .inl (fun _ => 0))), (ta, .inr (5, [.ref rta, .int 0])), (rta, .inl (cy 0, 48, .inl (fun _ => 0))), (wa, .inr (5, [.ref rwa, .int 0])), (rwa, .inl (cy 0, 24, .inl (fun _ => 0))), (wk, .inl (cy 4, 8, .inr (.inr (.inr (.inr gw))))), (w0, .inr (9, [.int 0, .int 0, .int 0, .int 5, .int 60, .int 0, .int 0, .int 0, .int 0, .ref wy0, .ref wn0])), (wy0, .inl (cy 0, 192, .inl (fun _ => 0))), (wn0, .inl (cy 0, 192, .inl (fun _ => 0))), (w1, .inr (9, [.int 0, .int 0, .int 0, .int 5, .int 60, .int 0, .int 0, .int 0, .int 0, .ref wy1, .ref wn1])), (wy1, .inl (cy 0, 192, .inl (fun _ => 0))), (wn1, .inl (cy 0, 192, .inl (fun _ => 0))), (w2, .inr (9, [.int 0, .int 0, .int 0, .int 5, .int 60, .int 0, .int 0, .int 0, .int 0, .ref wy2, .ref wn2])), (wy2, .inl (cy 0, 192, .inl (fun _ => 0))), (wn2, .inl (cy 0, 192, .inl (fun _ => 0))), (w3, .inr (9, [.int 0, .int 0, .int 0, .int 5, .int 60, .int 0, .int 0, .int 0, .int 0, .ref wy3, .ref wn3])), (wy3, .inl (cy 0, 192, .inl (fun _ => 0))), (wn3, .inl (cy 0, 192, .inl (fun _ => 0))), (w4, .inr (9, [.int 0, .int 0, .int 0, .int 5, .int 60, .int 0, .int 0, .int 0, .int 0, .ref wy4, .ref wn4])), (wy4, .inl (cy 0, 192, .inl (fun _ => 0))), (wn4, .inl (cy 0, 192, .inl (fun _ => 0))), (w5, .inr (9, [.int 0, .int 0, .int 0, .int 5, .int 60, .int 0, .int 0, .int 0, .int 0, .ref wy5, .ref wn5])), (wy5, .inl (cy 0, 192, .inl (fun _ => 0))), (wn5, .inl (cy 0, 192, .inl (fun _ => 0))), (w6, .inr (9, [.int 0, .int 0, .int 0, .int 5, .int 60, .int 0, .int 0, .int 0, .int 0, .ref wy6, .ref wn6])), (wy6, .inl (cy 0, 192, .inl (fun _ => 0))), (wn6, .inl (cy 0, 192, .inl (fun _ => 0))), (w7, .inr (9, [.int 0, .int 0, .int 0, .int 5, .int 60, .int 0, .int 0, .int 0, .int 0, .ref wy7, .ref wn7])), (wy7, .inl (cy 0, 192, .inl (fun _ => 0))), (wn7, .inl (cy 0, 192, .inl (fun _ => 0))), (klv, .inr (10, [.ref kst, .ref kla, .ref kle, .ref kta, .ref kwa, .ref kwk, .int 0, .int 0])), (kst, .inr (7, [.ref koc, .ref kki, .ref kce, .ref ksi, .ref ksp, .int 0])), (koc, .inl (cy 0, 192, .inl kfoc)), (kki, .inl (cy 0, 40, .inl (fun _ => 0))), (kce, .inl (cy 0, 40, .inl (fun _ => 0))), (ksi, .inl (cy 0, 40, .inl (fun _ => 0))), (ksp, .inl (cy 0, 40, .inl (fun _ => 0))), (kla, .inr (2, [.int 5, .int 9, .int 0, .ref kld, .ref ksr, .ref ktx, .ref kvl])), (kld, .inl (cy 0, 5, .inl kfl)), (ksr, .inl (cy 0, 5, .inl (fun _ => 0))), (ktx, .inl (cy 3, 3, .inr (.inr (.inr (.inr kgt))))), (kvl, .inl (cy 0, 5, .inl (fun _ => 0))), (kf0, .inr (1, [.ref kc0, .ref kk0, .int 0])), (kc0, .inl (cy 0, 48, .inl (fun _ => 0))), (kk0, .inl (cy 0, 48, .inl (fun _ => 0))), (kf1, .inr (1, [.ref kc1, .ref kk1, .int 0])), (kc1, .inl (cy 0, 48, .inl (fun _ => 0))), (kk1, .inl (cy 0, 48, .inl (fun _ => 0))), (kf2, .inr (1, [.ref kc2, .ref kk2, .int 0])), (kc2, .inl (cy 0, 48, .inl (fun _ => 0))), (kk2, .inl (cy 0, 48, .inl (fun _ => 0))), (kle, .inr (3, [.ref kte, .ref kne, .ref kmi, .int 0, .ref ktr, .ref kbe, .int 0, .int 0, .int 0])), (kte, .inl (cy 0, 7, .inl (fun _ => 0))), (kne, .inl (cy 0, 7, .inl (fun _ => 0))), (kmi, .inl (cy 0, 7, .inl (fun _ => 0))), (ktr, .inr (5, [.ref krta7, .int 0])), (krta7, .inl (cy 0, 7, .inl (fun _ => 0))), (kbe, .inr (5, [.ref krba7, .int 0])), (krba7, .inl (cy 0, 7, .inl (fun _ => 0))), (kta, .inr (5, [.ref krta, .int 0])), (krta, .inl (cy 0, 48, .inl (fun _ => 0))), (kwa, .inr (5, [.ref krwa, .int 0])), (krwa, .inl (cy 0, 24, .inl (fun _ => 0))), (kwk, .inl (cy 4, 8, .inr (.inr (.inr (.inr kgw))))), (kw0, .inr (9, [.int 0, .int 0, .int 0, .int 5, .int 60, .int 0, .int 0, .int 0, .int 0, .ref kwy0, .ref kwn0])), (kwy0, .inl (cy 0, 192, .inl (fun _ => 0))), (kwn0, .inl (cy 0, 192, .inl (fun _ => 0))), (kw1, .inr (9, [.int 0, .int 0, .int 0, .int 5, .int 60, .int 0, .int 0, .int 0, .int 0, .ref kwy1, .ref kwn1])), (kwy1, .inl (cy 0, 192, .inl (fun _ => 0))), (kwn1, .inl (cy 0, 192, .inl (fun _ => 0))), (kw2, .inr (9, [.int 0, .int 0, .int 0, .int 5, .int 60, .int 0, .int 0, .int 0, .int 0, .ref kwy2, .ref kwn2])), (kwy2, .inl (cy 0, 192, .inl (fun _ => 0))), (kwn2, .inl (cy 0, 192, .inl (fun _ => 0))), (kw3, .inr (9, [.int 0, .int 0, .int 0, .int 5, .int 60, .int 0, .int 0, .int 0, .int 0, .ref kwy3, .ref kwn3])), (kwy3, .inl (cy 0, 192, .inl (fun _ => 0))), (kwn3, .inl (cy 0, 192, .inl (fun _ => 0))), (kw4, .inr (9, [.int 0, .int 0, .int 0, .int 5, .int 60, .int 0, .int 0, .int 0, .int 0, .ref kwy4, .ref kwn4])), (kwy4, .inl (cy 0, 192, .inl (fun _ => 0))), (kwn4, .inl (cy 0, 192, .inl (fun _ => 0))), (kw5, .inr (9, [.int 0, .int 0, .int 0, .int 5, .int 60, .int 0, .int 0, .int 0, .int 0, .ref kwy5, .ref kwn5])), (kwy5, .inl (cy 0, 192, .inl (fun _ => 0))), (kwn5, .inl (cy 0, 192, .inl (fun _ => 0))), (kw6, .inr (9, [.int 0, .int 0, .int 0, .int 5, .int 60, .int 0, .int 0, .int 0, .int 0, .ref kwy6, .ref kwn6])), (kwy6, .inl (cy 0, 192, .inl (fun _ => 0))), (kwn6, .inl (cy 0, 192, .inl (fun _ => 0))), (kw7, .inr (9, [.int 0, .int 0, .int 0, .int 5, .int 60, .int 0, .int 0, .int 0, .int 0, .ref kwy7, .ref kwn7])), (kwy7, .inl (cy 0, 192, .inl (fun _ => 0))), (kwn7, .inl (cy 0, 192, .inl (fun _ => 0))), (zlv, .inr (10, [.ref zst, .ref zla, .ref zle, .ref zta, .ref zwa, .ref zwk, .int 0, .int 0])), (zst, .inr (7, [.ref zoc, .ref zki, .ref zce, .ref zsi, .ref zsp, .int 0])), (zoc, .inl (cy 0, 192, .inl zfoc)), (zki, .inl (cy 0, 40, .inl (fun _ => 0))), (zce, .inl (cy 0, 40, .inl (fun _ => 0))), (zsi, .inl (cy 0, 40, .inl (fun _ => 0))), (zsp, .inl (cy 0, 40, .inl (fun _ => 0))), (zla, .inr (2, [.int 5, .int 9, .int 0, .ref zld, .ref zsr, .ref ztx, .ref zvl])), (zld, .inl (cy 0, 5, .inl zfl)), (zsr, .inl (cy 0, 5, .inl (fun _ => 0))), (ztx, .inl (cy 3, 3, .inr (.inr (.inr (.inr zgt))))), (zvl, .inl (cy 0, 5, .inl (fun _ => 0))), (zf0, .inr (1, [.ref zc0, .ref zk0, .int 0])), (zc0, .inl (cy 0, 48, .inl (fun _ => 0))), (zk0, .inl (cy 0, 48, .inl (fun _ => 0))), (zf1, .inr (1, [.ref zc1, .ref zk1, .int 0])), (zc1, .inl (cy 0, 48, .inl (fun _ => 0))), (zk1, .inl (cy 0, 48, .inl (fun _ => 0))), (zf2, .inr (1, [.ref zc2, .ref zk2, .int 0])), (zc2, .inl (cy 0, 48, .inl (fun _ => 0))), (zk2, .inl (cy 0, 48, .inl (fun _ => 0))), (zle, .inr (3, [.ref zte, .ref zne, .ref zmi, .int 0, .ref ztr, .ref zbe, .int 0, .int 0, .int 0])), (zte, .inl (cy 0, 7, .inl (fun _ => 0))), (zne, .inl (cy 0, 7, .inl (fun _ => 0))), (zmi, .inl (cy 0, 7, .inl (fun _ => 0))), (ztr, .inr (5, [.ref zrta7, .int 0])), (zrta7, .inl (cy 0, 7, .inl (fun _ => 0))), (zbe, .inr (5, [.ref zrba7, .int 0])), (zrba7, .inl (cy 0, 7, .inl (fun _ => 0))), (zta, .inr (5, [.ref zrta, .int 0])), (zrta, .inl (cy 0, 48, .inl (fun _ => 0))), (zwa, .inr (5, [.ref zrwa, .int 0])), (zrwa, .inl (cy 0, 24, .inl (fun _ => 0))), (zwk, .inl (cy 4, 8, .inr (.inr (.inr (.inr zgw))))), (zw0, .inr (9, [.int 0, .int 0, .int 0, .int 5, .int 60, .int 0, .int 0, .int 0, .int 0, .ref zwy0, .ref zwn0])), (zwy0, .inl (cy 0, 192, .inl (fun _ => 0))), (zwn0, .inl (cy 0, 192, .inl (fun _ => 0))), (zw1, .inr (9, [.int 0, .int 0, .int 0, .int 5, .int 60, .int 0, .int 0, .int 0, .int 0, .ref zwy1, .ref zwn1])), (zwy1, .inl (cy 0, 192, .inl (fun _ => 0))), (zwn1, .inl (cy 0, 192, .inl (fun _ => 0))), (zw2, .inr (9, [.int 0, .int 0, .int 0, .int 5, .int 60, .int 0, .int 0, .int 0, .int 0, .ref zwy2, .ref zwn2])), (zwy2, .inl (cy 0, 192, .inl (fun _ => 0))), (zwn2, .inl (cy 0, 192, .inl (fun _ => 0))), (zw3, .inr (9, [.int 0, .int 0, .int 0, .int 5, .int 60, .int 0, .int 0, .int 0, .int 0, .ref zwy3, .ref zwn3])), (zwy3, .inl (cy 0, 192, .inl (fun _ => 0))), (zwn3, .inl (cy 0, 192, .inl (fun _ => 0))), (zw4, .inr (9, [.int 0, .int 0, .int 0, .int 5, .int 60, .int 0, .int 0, .int 0, .int 0, .ref zwy4, .ref zwn4])), (zwy4, .inl (cy 0, 192, .inl (fun _ => 0))), (zwn4, .inl (cy 0, 192, .inl (fun _ => 0))), (zw5, .inr (9, [.int 0, .int 0, .int 0, .int 5, .int 60, .int 0, .int 0, .int 0, .int 0, .ref zwy5, .ref zwn5])), (zwy5, .inl (cy 0, 192, .inl (fun _ => 0))), (zwn5, .inl (cy 0, 192, .inl (fun _ => 0))), (zw6, .inr (9, [.int 0, .int 0, .int 0, .int 5, .int 60, .int 0, .int 0, .int 0, .int 0, .ref zwy6, .ref zwn6])), (zwy6, .inl (cy 0, 192, .inl (fun _ => 0))), (zwn6, .inl (cy 0, 192, .inl (fun _ => 0))), (zw7, .inr (9, [.int 0, .int 0, .int 0, .int 5, .int 60, .int 0, .int 0, .int 0, .int 0, .ref zwy7, .ref zwn7])), (zwy7, .inl (cy 0, 192, .inl (fun _ => 0))), (zwn7, .inl (cy 0, 192, .inl (fun _ => 0))), (re, .inr (4, [.ref dr, .ref t0, .ref nm, .int 0, .int (-1), .int 0, .int 0])), (dr, .inr (1, [.ref co, .ref ck, .int 0])), (co, .inl (cy 0, 48, .inl (fun _ => 0))), (ck, .inl (cy 0, 48, .inl (fun _ => 0))), (t0, .inr (5, [.ref t0a, .int 0])), (t0a, .inl (cy 0, 0, .inl (fun _ => 0))), (fi, .inr (0, [.ref fc, .ref fd_, .ref fl_, .ref fh, .int 0, .int 0])), (fc, .inl (cy 0, 192, .inl (fun _ => 0))), (fd_, .inl (cy 1, 192, .inl (fun _ => 0))), (fl_, .inl (cy 2, 24, .inr (.inl (fun _ => 0)))), (fh, .inl (cy 0, 8, .inl (fun _ => 0))), (vo, .inr (8, [.ref bg, .ref vt, .int 0, .int 0, .int 0, .int 0])), (bg, .inr (5, [.ref bga, .int 0])), (bga, .inl (cy 0, 30, .inl (fun _ => 0))), (vt, .inr (5, [.ref vta, .int 0])), (vta, .inl (cy 0, 30, .inl (fun _ => 0)))]
set_option maxRecDepth 400000 in
theorem exE_c_X11_init {P : (Nat) → (Nat) → (Nat) → (Nat) → (Nat) → (Nat) → (Nat) → (Nat) → (Nat) → (Nat) → (Nat) → (Nat) → (Nat) → (Nat) → (Nat) → (Nat) → (Nat) → (Nat) → (Nat) → (Nat) → (Nat) → (Nat) → (Nat) → (Nat) → (Nat) → (Nat) → (Nat) → (Nat) → (Nat) → (Nat) → (Nat) → (Nat) → (Nat) → (Nat) → (Nat) → (Nat) → (Nat) → (Nat) → (Nat) → (Nat) → (Nat) → (Nat) → (Nat) → (Nat) → (Nat) → (Nat) → (Nat) → (Nat) → (Nat) → (Nat) → (Nat) → (Nat) → (Nat) → (Nat) → (Nat) → (Nat) → (Nat) → (Nat) → (Nat) → (Nat) → (Nat) → (Nat) → (Nat) → (Nat) → (Nat) → (Nat → Int32) → (Nat → Int32) → (Nat → Option Nat) → (Nat → Option Nat) → (Nat) → (Nat) → (Nat) → (Nat) → (Nat) → (Nat) → (Nat) → (Nat) → (Nat) → (Nat) → (Nat) → (Nat) → (Nat) → (Nat) → (Nat) → (Nat) → (Nat) → (Nat) → (Nat) → (Nat) → (Nat) → (Nat) → (Nat) → (Nat) → (Nat) → (Nat) → (Nat) → (Nat) → (Nat) → (Nat) → (Nat) → (Nat) → (Nat) → (Nat) → (Nat) → (Nat) → (Nat) → (Nat) → (Nat) → (Nat) → (Nat) → (Nat) → (Nat) → (Nat) → (Nat) → (Nat) → (Nat) → (Nat) → (Nat) → (Nat) → (Nat) → (Nat) → (Nat) → (Nat) → (Nat) → (Nat) → (Nat) → (Nat → Int32) → (Nat → Int32) → (Nat → Option Nat) → (Nat → Option Nat) → (Nat) → (Nat) → (Nat) → (Nat) → (Nat) → (Nat) → (Nat) → (Nat) → (Nat) → (Nat) → (Nat) → (Nat) → (Nat) → (Nat) → (Nat) → (Nat) → (Nat) → (Nat) → (Nat) → (Nat) → (Nat) → (Nat) → (Nat) → (Nat) → (Nat) → (Nat) → (Nat) → (Nat) → (Nat) → (Nat) → (Nat) → (Nat) → (Nat) → (Nat) → (Nat) → (Nat) → (Nat) → (Nat) → (Nat) → (Nat) → (Nat) → (Nat) → (Nat) → (Nat) → (Nat) → (Nat) → (Nat) → (Nat) → (Nat) → (Nat) → (Nat) → (Nat) → (Nat) → (Nat) → (Nat) → (Nat) → (Nat) → (Nat → Int32) → (Nat → Int32) → (Nat → Option Nat) → (Nat → Option Nat) → (Nat) → (Nat) → (Nat) → (Nat) → (Nat) → (Nat) → (Nat) → (Nat) → (Nat → Option Nat) → (Nat) → (Nat) → (Nat) → (Nat) → (Nat) → (Nat) → (Nat) → (Nat) → (Nat) → (Nat) → (Nat) → (Nat) → (Nat) → (Nat) → Prop} {Q : Prop} (h : ∃ (x0 : Nat) (x1 : Nat) (x2 : Nat) (x3 : Nat) (x4 : Nat) (x5 : Nat) (x6 : Nat) (x7 : Nat) (x8 : Nat) (x9 : Nat) (x10 : Nat) (x11 : Nat) (x12 : Nat) (x13 : Nat) (x14 : Nat) (x15 : Nat) (x16 : Nat) (x17 : Nat) (x18 : Nat) (x19 : Nat) (x20 : Nat) (x21 : Nat) (x22 : Nat) (x23 : Nat) (x24 : Nat) (x25 : Nat) (x26 : Nat) (x27 : Nat) (x28 : Nat) (x29 : Nat) (x30 : Nat) (x31 : Nat) (x32 : Nat) (x33 : Nat) (x34 : Nat) (x35 : Nat) (x36 : Nat) (x37 : Nat) (x38 : Nat) (x39 : Nat) (x40 : Nat) (x41 : Nat) (x42 : Nat) (x43 : Nat) (x44 : Nat) (x45 : Nat) (x46 : Nat) (x47 : Nat) (x48 : Nat) (x49 : Nat) (x50 : Nat) (x51 : Nat) (x52 : Nat) (x53 : Nat) (x54 : Nat) (x55 : Nat) (x56 : Nat) (x57 : Nat) (x58 : Nat) (x59 : Nat) (x60 : Nat) (x61 : Nat) (x62 : Nat) (x63 : Nat) (x64 : Nat) (x65 : Nat → Int32) (x66 : Nat → Int32) (x67 : Nat → Option Nat) (x68 : Nat → Option Nat) (x69 : Nat) (x70 : Nat) (x71 : Nat) (x72 : Nat) (x73 : Nat) (x74 : Nat) (x75 : Nat) (x76 : Nat) (x77 : Nat) (x78 : Nat) (x79 : Nat) (x80 : Nat) (x81 : Nat) (x82 : Nat) (x83 : Nat) (x84 : Nat) (x85 : Nat) (x86 : Nat) (x87 : Nat) (x88 : Nat) (x89 : Nat) (x90 : Nat) (x91 : Nat) (x92 : Nat) (x93 : Nat) (x94 : Nat) (x95 : Nat) (x96 : Nat) (x97 : Nat) (x98 : Nat) (x99 : Nat) (x100 : Nat) (x101 : Nat) (x102 : Nat) (x103 : Nat) (x104 : Nat) (x105 : Nat) (x106 : Nat) (x107 : Nat) (x108 : Nat) (x109 : Nat) (x110 : Nat) (x111 : Nat) (x112 : Nat) (x113 : Nat) (x114 : Nat) (x115 : Nat) (x116 : Nat) (x117 : Nat) (x118 : Nat) (x119 : Nat) (x120 : Nat) (x121 : Nat) (x122 : Nat) (x123 : Nat) (x124 : Nat) (x125 : Nat) (x126 : Nat → Int32) (x127 : Nat → Int32) (x128 : Nat → Option Nat) (x129 : Nat → Option Nat) (x130 : Nat) (x131 : Nat) (x132 : Nat) (x133 : Nat) (x134 : Nat) (x135 : Nat) (x136 : Nat) (x137 : Nat) (x138 : Nat) (x139 : Nat) (x140 : Nat) (x141 : Nat) (x142 : Nat) (x143 : Nat) (x144 : Nat) (x145 : Nat) (x146 : Nat) (x147 : Nat) (x148 : Nat) (x149 : Nat) (x150 : Nat) (x151 : Nat) (x152 : Nat) (x153 : Nat) (x154 : Nat) (x155 : Nat) (x156 : Nat) (x157 : Nat) (x158 : Nat) (x159 : Nat) (x160 : Nat) (x161 : Nat) (x162 : Nat) (x163 : Nat) (x164 : Nat) (x165 : Nat) (x166 : Nat) (x167 : Nat) (x168 : Nat) (x169 : Nat) (x170 : Nat) (x171 : Nat) (x172 : Nat) (x173 : Nat) (x174 : Nat) (x175 : Nat) (x176 : Nat) (x177 : Nat) (x178 : Nat) (x179 : Nat) (x180 : Nat) (x181 : Nat) (x182 : Nat) (x183 : Nat) (x184 : Nat) (x185 : Nat) (x186 : Nat) (x187 : Nat → Int32) (x188 : Nat → Int32) (x189 : Nat → Option Nat) (x190 : Nat → Option Nat) (x191 : Nat) (x192 : Nat) (x193 : Nat) (x194 : Nat) (x195 : Nat) (x196 : Nat) (x197 : Nat) (x198 : Nat) (x199 : Nat → Option Nat) (x200 : Nat) (x201 : Nat) (x202 : Nat) (x203 : Nat) (x204 : Nat) (x205 : Nat) (x206 : Nat) (x207 : Nat) (x208 : Nat) (x209 : Nat) (x210 : Nat) (x211 : Nat) (x212 : Nat) (x213 : Nat), P x0 x1 x2 x3 x4 x5 x6 x7 x8 x9 x10 x11 x12 x13 x14 x15 x16 x17 x18 x19 x20 x21 x22 x23 x24 x25 x26 x27 x28 x29 x30 x31 x32 x33 x34 x35 x36 x37 x38 x39 x40 x41 x42 x43 x44 x45 x46 x47 x48 x49 x50 x51 x52 x53 x54 x55 x56 x57 x58 x59 x60 x61 x62 x63 x64 x65 x66 x67 x68 x69 x70 x71 x72 x73 x74 x75 x76 x77 x78 x79 x80 x81 x82 x83 x84 x85 x86 x87 x88 x89 x90 x91 x92 x93 x94 x95 x96 x97 x98 x99 x100 x101 x102 x103 x104 x105 x106 x107 x108 x109 x110 x111 x112 x113 x114 x115 x116 x117 x118 x119 x120 x121 x122 x123 x124 x125 x126 x127 x128 x129 x130 x131 x132 x133 x134 x135 x136 x137 x138 x139 x140 x141 x142 x143 x144 x145 x146 x147 x148 x149 x150 x151 x152 x153 x154 x155 x156 x157 x158 x159 x160 x161 x162 x163 x164 x165 x166 x167 x168 x169 x170 x171 x172 x173 x174 x175 x176 x177 x178 x179 x180 x181 x182 x183 x184 x185 x186 x187 x188 x189 x190 x191 x192 x193 x194 x195 x196 x197 x198 x199 x200 x201 x202 x203 x204 x205 x206 x207 x208 x209 x210 x211 x212 x213) (k : ∀ (x0 : Nat) (x1 : Nat) (x2 : Nat) (x3 : Nat) (x4 : Nat) (x5 : Nat) (x6 : Nat) (x7 : Nat) (x8 : Nat) (x9 : Nat) (x10 : Nat) (x11 : Nat) (x12 : Nat) (x13 : Nat) (x14 : Nat) (x15 : Nat) (x16 : Nat) (x17 : Nat) (x18 : Nat) (x19 : Nat) (x20 : Nat) (x21 : Nat) (x22 : Nat) (x23 : Nat) (x24 : Nat) (x25 : Nat) (x26 : Nat) (x27 : Nat) (x28 : Nat) (x29 : Nat) (x30 : Nat) (x31 : Nat) (x32 : Nat) (x33 : Nat) (x34 : Nat) (x35 : Nat) (x36 : Nat) (x37 : Nat) (x38 : Nat) (x39 : Nat) (x40 : Nat) (x41 : Nat) (x42 : Nat) (x43 : Nat) (x44 : Nat) (x45 : Nat) (x46 : Nat) (x47 : Nat) (x48 : Nat) (x49 : Nat) (x50 : Nat) (x51 : Nat) (x52 : Nat) (x53 : Nat) (x54 : Nat) (x55 : Nat) (x56 : Nat) (x57 : Nat) (x58 : Nat) (x59 : Nat) (x60 : Nat) (x61 : Nat) (x62 : Nat) (x63 : Nat) (x64 : Nat) (x65 : Nat → Int32) (x66 : Nat → Int32) (x67 : Nat → Option Nat) (x68 : Nat → Option Nat) (x69 : Nat) (x70 : Nat) (x71 : Nat) (x72 : Nat) (x73 : Nat) (x74 : Nat) (x75 : Nat) (x76 : Nat) (x77 : Nat) (x78 : Nat) (x79 : Nat) (x80 : Nat) (x81 : Nat) (x82 : Nat) (x83 : Nat) (x84 : Nat) (x85 : Nat) (x86 : Nat) (x87 : Nat) (x88 : Nat) (x89 : Nat) (x90 : Nat) (x91 : Nat) (x92 : Nat) (x93 : Nat) (x94 : Nat) (x95 : Nat) (x96 : Nat) (x97 : Nat) (x98 : Nat) (x99 : Nat) (x100 : Nat) (x101 : Nat) (x102 : Nat) (x103 : Nat) (x104 : Nat) (x105 : Nat) (x106 : Nat) (x107 : Nat) (x108 : Nat) (x109 : Nat) (x110 : Nat) (x111 : Nat) (x112 : Nat) (x113 : Nat) (x114 : Nat) (x115 : Nat) (x116 : Nat) (x117 : Nat) (x118 : Nat) (x119 : Nat) (x120 : Nat) (x121 : Nat) (x122 : Nat) (x123 : Nat) (x124 : Nat) (x125 : Nat) (x126 : Nat → Int32) (x127 : Nat → Int32) (x128 : Nat → Option Nat) (x129 : Nat → Option Nat) (x130 : Nat) (x131 : Nat) (x132 : Nat) (x133 : Nat) (x134 : Nat) (x135 : Nat) (x136 : Nat) (x137 : Nat) (x138 : Nat) (x139 : Nat) (x140 : Nat) (x141 : Nat) (x142 : Nat) (x143 : Nat) (x144 : Nat) (x145 : Nat) (x146 : Nat) (x147 : Nat) (x148 : Nat) (x149 : Nat) (x150 : Nat) (x151 : Nat) (x152 : Nat) (x153 : Nat) (x154 : Nat) (x155 : Nat) (x156 : Nat) (x157 : Nat) (x158 : Nat) (x159 : Nat) (x160 : Nat) (x161 : Nat) (x162 : Nat) (x163 : Nat) (x164 : Nat) (x165 : Nat) (x166 : Nat) (x167 : Nat) (x168 : Nat) (x169 : Nat) (x170 : Nat) (x171 : Nat) (x172 : Nat) (x173 : Nat) (x174 : Nat) (x175 : Nat) (x176 : Nat) (x177 : Nat) (x178 : Nat) (x179 : Nat) (x180 : Nat) (x181 : Nat) (x182 : Nat) (x183 : Nat) (x184 : Nat) (x185 : Nat) (x186 : Nat) (x187 : Nat → Int32) (x188 : Nat → Int32) (x189 : Nat → Option Nat) (x190 : Nat → Option Nat) (x191 : Nat) (x192 : Nat) (x193 : Nat) (x194 : Nat) (x195 : Nat) (x196 : Nat) (x197 : Nat) (x198 : Nat) (x199 : Nat → Option Nat) (x200 : Nat) (x201 : Nat) (x202 : Nat) (x203 : Nat) (x204 : Nat) (x205 : Nat) (x206 : Nat) (x207 : Nat) (x208 : Nat) (x209 : Nat) (x210 : Nat) (x211 : Nat) (x212 : Nat) (x213 : Nat), P x0 x1 x2 x3 x4 x5 x6 x7 x8 x9 x10 x11 x12 x13 x14 x15 x16 x17 x18 x19 x20 x21 x22 x23 x24 x25 x26 x27 x28 x29 x30 x31 x32 x33 x34 x35 x36 x37 x38 x39 x40 x41 x42 x43 x44 x45 x46 x47 x48 x49 x50 x51 x52 x53 x54 x55 x56 x57 x58 x59 x60 x61 x62 x63 x64 x65 x66 x67 x68 x69 x70 x71 x72 x73 x74 x75 x76 x77 x78 x79 x80 x81 x82 x83 x84 x85 x86 x87 x88 x89 x90 x91 x92 x93 x94 x95 x96 x97 x98 x99 x100 x101 x102 x103 x104 x105 x106 x107 x108 x109 x110 x111 x112 x113 x114 x115 x116 x117 x118 x119 x120 x121 x122 x123 x124 x125 x126 x127 x128 x129 x130 x131 x132 x133 x134 x135 x136 x137 x138 x139 x140 x141 x142 x143 x144 x145 x146 x147 x148 x149 x150 x151 x152 x153 x154 x155 x156 x157 x158 x159 x160 x161 x162 x163 x164 x165 x166 x167 x168 x169 x170 x171 x172 x173 x174 x175 x176 x177 x178 x179 x180 x181 x182 x183 x184 x185 x186 x187 x188 x189 x190 x191 x192 x193 x194 x195 x196 x197 x198 x199 x200 x201 x202 x203 x204 x205 x206 x207 x208 x209 x210 x211 x212 x213 → Q) : Q := Exists.elim h fun x0 h => Exists.elim h fun x1 h => Exists.elim h fun x2 h => Exists.elim h fun x3 h => Exists.elim h fun x4 h => Exists.elim h fun x5 h => Exists.elim h fun x6 h => Exists.elim h fun x7 h => Exists.elim h fun x8 h => Exists.elim h fun x9 h => Exists.elim h fun x10 h => Exists.elim h fun x11 h => Exists.elim h fun x12 h => Exists.elim h fun x13 h => Exists.elim h fun x14 h => Exists.elim h fun x15 h => Exists.elim h fun x16 h => Exists.elim h fun x17 h => Exists.elim h fun x18 h => Exists.elim h fun x19 h => Exists.elim h fun x20 h => Exists.elim h fun x21 h => Exists.elim h fun x22 h => Exists.elim h fun x23 h => Exists.elim h fun x24 h => Exists.elim h fun x25 h => Exists.elim h fun x26 h => Exists.elim h fun x27 h => Exists.elim h fun x28 h => Exists.elim h fun x29 h => Exists.elim h fun x30 h => Exists.elim h fun x31 h => Exists.elim h fun x32 h => Exists.elim h fun x33 h => Exists.elim h fun x34 h => Exists.elim h fun x35 h => Exists.elim h fun x36 h => Exists.elim h fun x37 h => Exists.elim h fun x38 h => Exists.elim h fun x39 h => Exists.elim h fun x40 h => Exists.elim h fun x41 h => Exists.elim h fun x42 h => Exists.elim h fun x43 h => Exists.elim h fun x44 h => Exists.elim h fun x45 h => Exists.elim h fun x46 h => Exists.elim h fun x47 h => Exists.elim h fun x48 h => Exists.elim h fun x49 h => Exists.elim h fun x50 h => Exists.elim h fun x51 h => Exists.elim h fun x52 h => Exists.elim h fun x53 h => Exists.elim h fun x54 h => Exists.elim h fun x55 h => Exists.elim h fun x56 h => Exists.elim h fun x57 h => Exists.elim h fun x58 h => Exists.elim h fun x59 h => Exists.elim h fun x60 h => Exists.elim h fun x61 h => Exists.elim h fun x62 h => Exists.elim h fun x63 h => Exists.elim h fun x64 h => Exists.elim h fun x65 h => Exists.elim h fun x66 h => Exists.elim h fun x67 h => Exists.elim h fun x68 h => Exists.elim h fun x69 h => Exists.elim h fun x70 h => Exists.elim h fun x71 h => Exists.elim h fun x72 h => Exists.elim h fun x73 h => Exists.elim h fun x74 h => Exists.elim h fun x75 h => Exists.elim h fun x76 h => Exists.elim h fun x77 h => Exists.elim h fun x78 h => Exists.elim h fun x79 h => Exists.elim h fun x80 h => Exists.elim h fun x81 h => Exists.elim h fun x82 h => Exists.elim h fun x83 h => Exists.elim h fun x84 h => Exists.elim h fun x85 h => Exists.elim h fun x86 h => Exists.elim h fun x87 h => Exists.elim h fun x88 h => Exists.elim h fun x89 h => Exists.elim h fun x90 h => Exists.elim h fun x91 h => Exists.elim h fun x92 h => Exists.elim h fun x93 h => Exists.elim h fun x94 h => Exists.elim h fun x95 h => Exists.elim h fun x96 h => Exists.elim h fun x97 h => Exists.elim h fun x98 h => Exists.elim h fun x99 h => Exists.elim h fun x100 h => Exists.elim h fun x101 h => Exists.elim h fun x102 h => Exists.elim h fun x103 h => Exists.elim h fun x104 h => Exists.elim h fun x105 h => Exists.elim h fun x106 h => Exists.elim h fun x107 h => Exists.elim h fun x108 h => Exists.elim h fun x109 h => Exists.elim h fun x110 h => Exists.elim h fun x111 h => Exists.elim h fun x112 h => Exists.elim h fun x113 h => Exists.elim h fun x114 h => Exists.elim h fun x115 h => Exists.elim h fun x116 h => Exists.elim h fun x117 h => Exists.elim h fun x118 h => Exists.elim h fun x119 h => Exists.elim h fun x120 h => Exists.elim h fun x121 h => Exists.elim h fun x122 h => Exists.elim h fun x123 h => Exists.elim h fun x124 h => Exists.elim h fun x125 h => Exists.elim h fun x126 h => Exists.elim h fun x127 h => Exists.elim h fun x128 h => Exists.elim h fun x129 h => Exists.elim h fun x130 h => Exists.elim h fun x131 h => Exists.elim h fun x132 h => Exists.elim h fun x133 h => Exists.elim h fun x134 h => Exists.elim h fun x135 h => Exists.elim h fun x136 h => Exists.elim h fun x137 h => Exists.elim h fun x138 h => Exists.elim h fun x139 h => Exists.elim h fun x140 h => Exists.elim h fun x141 h => Exists.elim h fun x142 h => Exists.elim h fun x143 h => Exists.elim h fun x144 h => Exists.elim h fun x145 h => Exists.elim h fun x146 h => Exists.elim h fun x147 h => Exists.elim h fun x148 h => Exists.elim h fun x149 h => Exists.elim h fun x150 h => Exists.elim h fun x151 h => Exists.elim h fun x152 h => Exists.elim h fun x153 h => Exists.elim h fun x154 h => Exists.elim h fun x155 h => Exists.elim h fun x156 h => Exists.elim h fun x157 h => Exists.elim h fun x158 h => Exists.elim h fun x159 h => Exists.elim h fun x160 h => Exists.elim h fun x161 h => Exists.elim h fun x162 h => Exists.elim h fun x163 h => Exists.elim h fun x164 h => Exists.elim h fun x165 h => Exists.elim h fun x166 h => Exists.elim h fun x167 h => Exists.elim h fun x168 h => Exists.elim h fun x169 h => Exists.elim h fun x170 h => Exists.elim h fun x171 h => Exists.elim h fun x172 h => Exists.elim h fun x173 h => Exists.elim h fun x174 h => Exists.elim h fun x175 h => Exists.elim h fun x176 h => Exists.elim h fun x177 h => Exists.elim h fun x178 h => Exists.elim h fun x179 h => Exists.elim h fun x180 h => Exists.elim h fun x181 h => Exists.elim h fun x182 h => Exists.elim h fun x183 h => Exists.elim h fun x184 h => Exists.elim h fun x185 h => Exists.elim h fun x186 h => Exists.elim h fun x187 h => Exists.elim h fun x188 h => Exists.elim h fun x189 h => Exists.elim h fun x190 h => Exists.elim h fun x191 h => Exists.elim h fun x192 h => Exists.elim h fun x193 h => Exists.elim h fun x194 h => Exists.elim h fun x195 h => Exists.elim h fun x196 h => Exists.elim h fun x197 h => Exists.elim h fun x198 h => Exists.elim h fun x199 h => Exists.elim h fun x200 h => Exists.elim h fun x201 h => Exists.elim h fun x202 h => Exists.elim h fun x203 h => Exists.elim h fun x204 h => Exists.elim h fun x205 h => Exists.elim h fun x206 h => Exists.elim h fun x207 h => Exists.elim h fun x208 h => Exists.elim h fun x209 h => Exists.elim h fun x210 h => Exists.elim h fun x211 h => Exists.elim h fun x212 h => Exists.elim h fun x213 h => k x0 x1 x2 x3 x4 x5 x6 x7 x8 x9 x10 x11 x12 x13 x14 x15 x16 x17 x18 x19 x20 x21 x22 x23 x24 x25 x26 x27 x28 x29 x30 x31 x32 x33 x34 x35 x36 x37 x38 x39 x40 x41 x42 x43 x44 x45 x46 x47 x48 x49 x50 x51 x52 x53 x54 x55 x56 x57 x58 x59 x60 x61 x62 x63 x64 x65 x66 x67 x68 x69 x70 x71 x72 x73 x74 x75 x76 x77 x78 x79 x80 x81 x82 x83 x84 x85 x86 x87 x88 x89 x90 x91 x92 x93 x94 x95 x96 x97 x98 x99 x100 x101 x102 x103 x104 x105 x106 x107 x108 x109 x110 x111 x112 x113 x114 x115 x116 x117 x118 x119 x120 x121 x122 x123 x124 x125 x126 x127 x128 x129 x130 x131 x132 x133 x134 x135 x136 x137 x138 x139 x140 x141 x142 x143 x144 x145 x146 x147 x148 x149 x150 x151 x152 x153 x154 x155 x156 x157 x158 x159 x160 x161 x162 x163 x164 x165 x166 x167 x168 x169 x170 x171 x172 x173 x174 x175 x176 x177 x178 x179 x180 x181 x182 x183 x184 x185 x186 x187 x188 x189 x190 x191 x192 x193 x194 x195 x196 x197 x198 x199 x200 x201 x202 x203 x204 x205 x206 x207 x208 x209 x210 x211 x212 x213 h
set_option maxHeartbeats 4000000 in
set_option maxRecDepth 100000 in
theorem c_X11_init (l : Launch) (G : va_G) (cy : Nat → ClassId) (sk : Nat → Nat) (sz : Nat) (h0 : Nat)  : Met l yX11_init (wsO yX11_init cX11_init 2 none) ({ frames := 4, cells := 200, slots := 13841, locals := 76 }) (va_Pc [.ref h0] (PR G cy sk sz [(h0, .inr (11, [.null, .null, .null, .null, .null, .null, .null, .null, .int 0]))])) (va_Qv (fun (_ : Unit) => True) (fun _ t => B_c_X11_init G cy sk (va_A [(h0, .inr (11, [.null, .null, .null, .null, .null, .null, .null, .null, .int 0]))] sz) h0 t.heap) (va_A [(h0, .inr (11, [.null, .null, .null, .null, .null, .null, .null, .null, .int 0]))] sz)) 200 13841 (va_A [(h0, .inr (11, [.null, .null, .null, .null, .null, .null, .null, .null, .int 0]))] sz) := by
  refine mt (by decide) (Nat.le_of_ble_eq_true rfl) ?_
  intro p e s m below meth c ls hx hb hr hml hts hown hlocks hin hsz hP hE hD hl
  subst hsz
  have hl : lv_has ls 2 [(0, .ref h0)] := hl
  have hD := hD.self (sz := s.heap.size)
  generalize hAe : va_A [(h0, .inr (11, [.null, .null, .null, .null, .null, .null, .null, .null, .int 0]))] s.heap.size = A at hD ⊢
  have hA : ∀ q : Nat, s.heap.size ≤ q → A q := fun q h => by rw [← hAe]; exact Or.inr h
  have hS : va_S A s.heap s.heap [] := va_S.rf
  refine lv_aload_n hx hb dX11_init_0 rfl (lv_at hl 0 rfl) ?_
  refine W.objInit hx hb hown (hts _ m_106) (hts _ m_107) (hts _ m_108) rfl (by rw [hml]; exact hl.1) rfl dX11_init_1 (Nat.le_of_ble_eq_true rfl) (Nat.le_of_ble_eq_true rfl) ?_
  refine W.eq (g2 := F0 m 4 ls []) rfl ?_
  refine lv_aload_n hx hb dX11_init_4 rfl (lv_at hl 0 rfl) ?_
  refine va_new (ci := 10) (fs := [.null, .null, .null, .null, .null, .null, .int 0, .int 0]) (C := RX10) (T := TX10) (N := 8) hx hb hts inB10 tyX10 tyX10_ok hown (hts _ m_109) (hts _ m_110) (hts _ m_80) hE.1 hP hD hS hA rfl df10 (Nat.le_of_ble_eq_true rfl) (Nat.le_of_ble_eq_true rfl) dX11_init_5 (fun nq1 H hP hD hS => ?_)
  have hP : va_P G classes [(h0, .inr (11, [.null, .null, .null, .null, .null, .null, .null, .null, .int 0])), (nq1, .inr (10, [.null, .null, .null, .null, .null, .null, .int 0, .int 0]))] H := hP
  refine lv_dup hx hb dX11_init_8 rfl ?_
  refine wI (B := (B_c_X10_init G cy sk (va_A [(nq1, .inr (10, [.null, .null, .null, .null, .null, .null, .int 0, .int 0]))] H.size) nq1)) (wr := [(h0, .inr (11, [.null, .null, .null, .null, .null, .null, .null, .null, .int 0]))]) (rest := [.ref nq1, .ref h0]) hx hb hml hown hts hE (c_X10_init l G cy sk H.size nq1) kI_X10_init m_111 rfl rfl ⟨(Nat.le_of_ble_eq_true rfl), (Nat.le_of_ble_eq_true rfl)⟩ hP hD hS hA [1] [0] rfl rfl rfl rfl (by decide) rfl rfl hl.1 (Nat.le_of_ble_eq_true rfl) dX11_init_9 ⟨(Nat.le_of_ble_eq_true rfl), (Nat.le_of_ble_eq_true rfl)⟩ (fun H locs haf hS => ?_)
  have hE0_ := haf.1
  unfold B_c_X10_init at hE0_
  refine exE_c_X10_init hE0_ (fun xq3 xq4 xq5 xq6 xq7 xq8 xq9 xq10 xq11 xq12 xq13 xq14 xq15 xq16 xq17 xq18 xq19 xq20 xq21 xq22 xq23 xq24 xq25 xq26 xq27 xq28 xq29 xq30 xq31 xq32 xq33 xq34 xq35 xq36 xq37 xq38 xq39 xq40 xq41 xq42 xq43 xq44 xq45 xq46 xq47 xq48 xq49 xq50 xq51 xq52 xq53 xq54 xq55 xq56 xq57 xq58 xq59 xf60 xf61 xg62 xg63 hE0_ => ?_)
  obtain ⟨h_64, h_65, h_66, h_67, h_68, h_69, h_70, h_71, h_72, h_73, h_74, h_75, h_76, hP1, hD1⟩ := hE0_
  obtain ⟨hP, hD⟩ := haf.2.1 _ hP1 hD1
  obtain ⟨LT77, hLT77⟩ : ∃ L9 : va_W, L9 = [(nq1, .inr (10, [.ref xq3, .ref xq9, .ref xq23, .ref xq31, .ref xq33, .ref xq35, .int 0, .int 0])), (xq3, .inr (7, [.ref xq4, .ref xq5, .ref xq6, .ref xq7, .ref xq8, .int 0])), (xq4, .inl (cy 0, 192, .inl xf60)), (xq5, .inl (cy 0, 40, .inl (fun _ => 0))), (xq6, .inl (cy 0, 40, .inl (fun _ => 0))), (xq7, .inl (cy 0, 40, .inl (fun _ => 0))), (xq8, .inl (cy 0, 40, .inl (fun _ => 0))), (xq9, .inr (2, [.int 5, .int 9, .int 0, .ref xq10, .ref xq11, .ref xq12, .ref xq13])), (xq10, .inl (cy 0, 5, .inl xf61)), (xq11, .inl (cy 0, 5, .inl (fun _ => 0))), (xq12, .inl (cy 3, 3, .inr (.inr (.inr (.inr xg62))))), (xq13, .inl (cy 0, 5, .inl (fun _ => 0))), (xq14, .inr (1, [.ref xq15, .ref xq16, .int 0])), (xq15, .inl (cy 0, 48, .inl (fun _ => 0))), (xq16, .inl (cy 0, 48, .inl (fun _ => 0))), (xq17, .inr (1, [.ref xq18, .ref xq19, .int 0])), (xq18, .inl (cy 0, 48, .inl (fun _ => 0))), (xq19, .inl (cy 0, 48, .inl (fun _ => 0))), (xq20, .inr (1, [.ref xq21, .ref xq22, .int 0])), (xq21, .inl (cy 0, 48, .inl (fun _ => 0))), (xq22, .inl (cy 0, 48, .inl (fun _ => 0))), (xq23, .inr (3, [.ref xq24, .ref xq25, .ref xq26, .int 0, .ref xq27, .ref xq28, .int 0, .int 0, .int 0])), (xq24, .inl (cy 0, 7, .inl (fun _ => 0))), (xq25, .inl (cy 0, 7, .inl (fun _ => 0))), (xq26, .inl (cy 0, 7, .inl (fun _ => 0))), (xq27, .inr (5, [.ref xq29, .int 0])), (xq29, .inl (cy 0, 7, .inl (fun _ => 0))), (xq28, .inr (5, [.ref xq30, .int 0])), (xq30, .inl (cy 0, 7, .inl (fun _ => 0))), (xq31, .inr (5, [.ref xq32, .int 0])), (xq32, .inl (cy 0, 48, .inl (fun _ => 0))), (xq33, .inr (5, [.ref xq34, .int 0])), (xq34, .inl (cy 0, 24, .inl (fun _ => 0))), (xq35, .inl (cy 4, 8, .inr (.inr (.inr (.inr xg63))))), (xq36, .inr (9, [.int 0, .int 0, .int 0, .int 5, .int 60, .int 0, .int 0, .int 0, .int 0, .ref xq37, .ref xq38])), (xq37, .inl (cy 0, 192, .inl (fun _ => 0))), (xq38, .inl (cy 0, 192, .inl (fun _ => 0))), (xq39, .inr (9, [.int 0, .int 0, .int 0, .int 5, .int 60, .int 0, .int 0, .int 0, .int 0, .ref xq40, .ref xq41])), (xq40, .inl (cy 0, 192, .inl (fun _ => 0))), (xq41, .inl (cy 0, 192, .inl (fun _ => 0))), (xq42, .inr (9, [.int 0, .int 0, .int 0, .int 5, .int 60, .int 0, .int 0, .int 0, .int 0, .ref xq43, .ref xq44])), (xq43, .inl (cy 0, 192, .inl (fun _ => 0))), (xq44, .inl (cy 0, 192, .inl (fun _ => 0))), (xq45, .inr (9, [.int 0, .int 0, .int 0, .int 5, .int 60, .int 0, .int 0, .int 0, .int 0, .ref xq46, .ref xq47])), (xq46, .inl (cy 0, 192, .inl (fun _ => 0))), (xq47, .inl (cy 0, 192, .inl (fun _ => 0))), (xq48, .inr (9, [.int 0, .int 0, .int 0, .int 5, .int 60, .int 0, .int 0, .int 0, .int 0, .ref xq49, .ref xq50])), (xq49, .inl (cy 0, 192, .inl (fun _ => 0))), (xq50, .inl (cy 0, 192, .inl (fun _ => 0))), (xq51, .inr (9, [.int 0, .int 0, .int 0, .int 5, .int 60, .int 0, .int 0, .int 0, .int 0, .ref xq52, .ref xq53])), (xq52, .inl (cy 0, 192, .inl (fun _ => 0))), (xq53, .inl (cy 0, 192, .inl (fun _ => 0))), (xq54, .inr (9, [.int 0, .int 0, .int 0, .int 5, .int 60, .int 0, .int 0, .int 0, .int 0, .ref xq55, .ref xq56])), (xq55, .inl (cy 0, 192, .inl (fun _ => 0))), (xq56, .inl (cy 0, 192, .inl (fun _ => 0))), (xq57, .inr (9, [.int 0, .int 0, .int 0, .int 5, .int 60, .int 0, .int 0, .int 0, .int 0, .ref xq58, .ref xq59])), (xq58, .inl (cy 0, 192, .inl (fun _ => 0))), (xq59, .inl (cy 0, 192, .inl (fun _ => 0)))] := ⟨_, rfl⟩
  have hP : va_P G classes ([(h0, .inr (11, [.null, .null, .null, .null, .null, .null, .null, .null, .int 0]))] ++ LT77) H := by rw [hLT77]; exact hP
  have hD : va_D A ([(h0, .inr (11, [.null, .null, .null, .null, .null, .null, .null, .null, .int 0]))] ++ LT77) := by rw [hLT77]; exact hD
  have hP : va_P G classes ([(h0, .inr (11, [.null, .null, .null, .null, .null, .null, .null, .null, .int 0]))] ++ LT77) H := hP
  refine va_putF (D := G) (ci := 11) (v := .ref nq1) (ty := (.object "ClickStreet$World")) (C := RX11) (T := TX11) (N := 9) hx hb hts inB11 tyX11 tyX11_ok nmX11 hown hE.1 hP hD hS 0 rfl rfl 0 (by decide) (hts _ m_459) (fun _ h9 => h9) rfl hin rfl (by decide +kernel) rfl rfl (Nat.le_of_ble_eq_true rfl) dX11_init_12 (fun H locs hP hD hS => ?_)
  have hP : va_P G classes ([(h0, .inr (11, [.ref nq1, .null, .null, .null, .null, .null, .null, .null, .int 0]))] ++ LT77) H := hP
  refine lv_aload_n hx hb dX11_init_15 rfl (lv_at hl 0 rfl) ?_
  refine va_new (ci := 10) (fs := [.null, .null, .null, .null, .null, .null, .int 0, .int 0]) (C := RX10) (T := TX10) (N := 8) hx hb hts inB10 tyX10 tyX10_ok hown (hts _ m_109) (hts _ m_110) (hts _ m_80) hE.1 hP hD hS hA rfl df10 (Nat.le_of_ble_eq_true rfl) (Nat.le_of_ble_eq_true rfl) dX11_init_16 (fun nq78 H hP hD hS => ?_)
  have hP := P_swap hP
  have hD := D_swap hD
  have hP : va_P G classes ([(nq78, .inr (10, [.null, .null, .null, .null, .null, .null, .int 0, .int 0])), (h0, .inr (11, [.ref nq1, .null, .null, .null, .null, .null, .null, .null, .int 0]))] ++ LT77) H := hP
  refine lv_dup hx hb dX11_init_19 rfl ?_
  refine wIT (B := (B_c_X10_init G cy sk (va_A [(nq78, .inr (10, [.null, .null, .null, .null, .null, .null, .int 0, .int 0]))] H.size) nq78)) (wc := [(nq78, .inr (10, [.null, .null, .null, .null, .null, .null, .int 0, .int 0]))]) (wr := ([(h0, .inr (11, [.ref nq1, .null, .null, .null, .null, .null, .null, .null, .int 0]))] ++ LT77)) (rest := [.ref nq78, .ref h0]) hx hb hml hown hts hE (c_X10_init l G cy sk H.size nq78) kI_X10_init m_111 rfl rfl ⟨(Nat.le_of_ble_eq_true rfl), (Nat.le_of_ble_eq_true rfl)⟩ hP hD hS hA rfl rfl hl.1 (Nat.le_of_ble_eq_true rfl) dX11_init_20 ⟨(Nat.le_of_ble_eq_true rfl), (Nat.le_of_ble_eq_true rfl)⟩ (fun H locs haf hS => ?_)
  have hE0_ := haf.1
  unfold B_c_X10_init at hE0_
  refine exE_c_X10_init hE0_ (fun xq79 xq80 xq81 xq82 xq83 xq84 xq85 xq86 xq87 xq88 xq89 xq90 xq91 xq92 xq93 xq94 xq95 xq96 xq97 xq98 xq99 xq100 xq101 xq102 xq103 xq104 xq105 xq106 xq107 xq108 xq109 xq110 xq111 xq112 xq113 xq114 xq115 xq116 xq117 xq118 xq119 xq120 xq121 xq122 xq123 xq124 xq125 xq126 xq127 xq128 xq129 xq130 xq131 xq132 xq133 xq134 xq135 xf136 xf137 xg138 xg139 hE0_ => ?_)
  obtain ⟨h_140, h_141, h_142, h_143, h_144, h_145, h_146, h_147, h_148, h_149, h_150, h_151, h_152, hP1, hD1⟩ := hE0_
  obtain ⟨hP, hD⟩ := haf.2.1 _ hP1 hD1
  obtain ⟨LT153, hLT153⟩ : ∃ L9 : va_W, L9 = LT77 ++ [(nq78, .inr (10, [.ref xq79, .ref xq85, .ref xq99, .ref xq107, .ref xq109, .ref xq111, .int 0, .int 0])), (xq79, .inr (7, [.ref xq80, .ref xq81, .ref xq82, .ref xq83, .ref xq84, .int 0])), (xq80, .inl (cy 0, 192, .inl xf136)), (xq81, .inl (cy 0, 40, .inl (fun _ => 0))), (xq82, .inl (cy 0, 40, .inl (fun _ => 0))), (xq83, .inl (cy 0, 40, .inl (fun _ => 0))), (xq84, .inl (cy 0, 40, .inl (fun _ => 0))), (xq85, .inr (2, [.int 5, .int 9, .int 0, .ref xq86, .ref xq87, .ref xq88, .ref xq89])), (xq86, .inl (cy 0, 5, .inl xf137)), (xq87, .inl (cy 0, 5, .inl (fun _ => 0))), (xq88, .inl (cy 3, 3, .inr (.inr (.inr (.inr xg138))))), (xq89, .inl (cy 0, 5, .inl (fun _ => 0))), (xq90, .inr (1, [.ref xq91, .ref xq92, .int 0])), (xq91, .inl (cy 0, 48, .inl (fun _ => 0))), (xq92, .inl (cy 0, 48, .inl (fun _ => 0))), (xq93, .inr (1, [.ref xq94, .ref xq95, .int 0])), (xq94, .inl (cy 0, 48, .inl (fun _ => 0))), (xq95, .inl (cy 0, 48, .inl (fun _ => 0))), (xq96, .inr (1, [.ref xq97, .ref xq98, .int 0])), (xq97, .inl (cy 0, 48, .inl (fun _ => 0))), (xq98, .inl (cy 0, 48, .inl (fun _ => 0))), (xq99, .inr (3, [.ref xq100, .ref xq101, .ref xq102, .int 0, .ref xq103, .ref xq104, .int 0, .int 0, .int 0])), (xq100, .inl (cy 0, 7, .inl (fun _ => 0))), (xq101, .inl (cy 0, 7, .inl (fun _ => 0))), (xq102, .inl (cy 0, 7, .inl (fun _ => 0))), (xq103, .inr (5, [.ref xq105, .int 0])), (xq105, .inl (cy 0, 7, .inl (fun _ => 0))), (xq104, .inr (5, [.ref xq106, .int 0])), (xq106, .inl (cy 0, 7, .inl (fun _ => 0))), (xq107, .inr (5, [.ref xq108, .int 0])), (xq108, .inl (cy 0, 48, .inl (fun _ => 0))), (xq109, .inr (5, [.ref xq110, .int 0])), (xq110, .inl (cy 0, 24, .inl (fun _ => 0))), (xq111, .inl (cy 4, 8, .inr (.inr (.inr (.inr xg139))))), (xq112, .inr (9, [.int 0, .int 0, .int 0, .int 5, .int 60, .int 0, .int 0, .int 0, .int 0, .ref xq113, .ref xq114])), (xq113, .inl (cy 0, 192, .inl (fun _ => 0))), (xq114, .inl (cy 0, 192, .inl (fun _ => 0))), (xq115, .inr (9, [.int 0, .int 0, .int 0, .int 5, .int 60, .int 0, .int 0, .int 0, .int 0, .ref xq116, .ref xq117])), (xq116, .inl (cy 0, 192, .inl (fun _ => 0))), (xq117, .inl (cy 0, 192, .inl (fun _ => 0))), (xq118, .inr (9, [.int 0, .int 0, .int 0, .int 5, .int 60, .int 0, .int 0, .int 0, .int 0, .ref xq119, .ref xq120])), (xq119, .inl (cy 0, 192, .inl (fun _ => 0))), (xq120, .inl (cy 0, 192, .inl (fun _ => 0))), (xq121, .inr (9, [.int 0, .int 0, .int 0, .int 5, .int 60, .int 0, .int 0, .int 0, .int 0, .ref xq122, .ref xq123])), (xq122, .inl (cy 0, 192, .inl (fun _ => 0))), (xq123, .inl (cy 0, 192, .inl (fun _ => 0))), (xq124, .inr (9, [.int 0, .int 0, .int 0, .int 5, .int 60, .int 0, .int 0, .int 0, .int 0, .ref xq125, .ref xq126])), (xq125, .inl (cy 0, 192, .inl (fun _ => 0))), (xq126, .inl (cy 0, 192, .inl (fun _ => 0))), (xq127, .inr (9, [.int 0, .int 0, .int 0, .int 5, .int 60, .int 0, .int 0, .int 0, .int 0, .ref xq128, .ref xq129])), (xq128, .inl (cy 0, 192, .inl (fun _ => 0))), (xq129, .inl (cy 0, 192, .inl (fun _ => 0))), (xq130, .inr (9, [.int 0, .int 0, .int 0, .int 5, .int 60, .int 0, .int 0, .int 0, .int 0, .ref xq131, .ref xq132])), (xq131, .inl (cy 0, 192, .inl (fun _ => 0))), (xq132, .inl (cy 0, 192, .inl (fun _ => 0))), (xq133, .inr (9, [.int 0, .int 0, .int 0, .int 5, .int 60, .int 0, .int 0, .int 0, .int 0, .ref xq134, .ref xq135])), (xq134, .inl (cy 0, 192, .inl (fun _ => 0))), (xq135, .inl (cy 0, 192, .inl (fun _ => 0)))] := ⟨_, rfl⟩
  have hP : va_P G classes ([(h0, .inr (11, [.ref nq1, .null, .null, .null, .null, .null, .null, .null, .int 0]))] ++ LT153) H := by rw [hLT153, ← List.append_assoc]; exact hP
  have hD : va_D A ([(h0, .inr (11, [.ref nq1, .null, .null, .null, .null, .null, .null, .null, .int 0]))] ++ LT153) := by rw [hLT153, ← List.append_assoc]; exact hD
  refine va_putF (D := G) (ci := 11) (v := .ref nq78) (ty := (.object "ClickStreet$World")) (C := RX11) (T := TX11) (N := 9) hx hb hts inB11 tyX11 tyX11_ok nmX11 hown hE.1 hP hD hS 0 rfl rfl 1 (by decide) (hts _ m_460) (fun _ h9 => h9) rfl hin rfl (by decide +kernel) rfl rfl (Nat.le_of_ble_eq_true rfl) dX11_init_23 (fun H locs hP hD hS => ?_)
  have hP : va_P G classes ([(h0, .inr (11, [.ref nq1, .ref nq78, .null, .null, .null, .null, .null, .null, .int 0]))] ++ LT153) H := hP
  refine lv_aload_n hx hb dX11_init_26 rfl (lv_at hl 0 rfl) ?_
  refine va_new (ci := 10) (fs := [.null, .null, .null, .null, .null, .null, .int 0, .int 0]) (C := RX10) (T := TX10) (N := 8) hx hb hts inB10 tyX10 tyX10_ok hown (hts _ m_109) (hts _ m_110) (hts _ m_80) hE.1 hP hD hS hA rfl df10 (Nat.le_of_ble_eq_true rfl) (Nat.le_of_ble_eq_true rfl) dX11_init_27 (fun nq154 H hP hD hS => ?_)
  have hP := P_swap hP
  have hD := D_swap hD
  have hP : va_P G classes ([(nq154, .inr (10, [.null, .null, .null, .null, .null, .null, .int 0, .int 0])), (h0, .inr (11, [.ref nq1, .ref nq78, .null, .null, .null, .null, .null, .null, .int 0]))] ++ LT153) H := hP
  refine lv_dup hx hb dX11_init_30 rfl ?_
  refine wIT (B := (B_c_X10_init G cy sk (va_A [(nq154, .inr (10, [.null, .null, .null, .null, .null, .null, .int 0, .int 0]))] H.size) nq154)) (wc := [(nq154, .inr (10, [.null, .null, .null, .null, .null, .null, .int 0, .int 0]))]) (wr := ([(h0, .inr (11, [.ref nq1, .ref nq78, .null, .null, .null, .null, .null, .null, .int 0]))] ++ LT153)) (rest := [.ref nq154, .ref h0]) hx hb hml hown hts hE (c_X10_init l G cy sk H.size nq154) kI_X10_init m_111 rfl rfl ⟨(Nat.le_of_ble_eq_true rfl), (Nat.le_of_ble_eq_true rfl)⟩ hP hD hS hA rfl rfl hl.1 (Nat.le_of_ble_eq_true rfl) dX11_init_31 ⟨(Nat.le_of_ble_eq_true rfl), (Nat.le_of_ble_eq_true rfl)⟩ (fun H locs haf hS => ?_)
  have hE0_ := haf.1
  unfold B_c_X10_init at hE0_
  refine exE_c_X10_init hE0_ (fun xq155 xq156 xq157 xq158 xq159 xq160 xq161 xq162 xq163 xq164 xq165 xq166 xq167 xq168 xq169 xq170 xq171 xq172 xq173 xq174 xq175 xq176 xq177 xq178 xq179 xq180 xq181 xq182 xq183 xq184 xq185 xq186 xq187 xq188 xq189 xq190 xq191 xq192 xq193 xq194 xq195 xq196 xq197 xq198 xq199 xq200 xq201 xq202 xq203 xq204 xq205 xq206 xq207 xq208 xq209 xq210 xq211 xf212 xf213 xg214 xg215 hE0_ => ?_)
  obtain ⟨h_216, h_217, h_218, h_219, h_220, h_221, h_222, h_223, h_224, h_225, h_226, h_227, h_228, hP1, hD1⟩ := hE0_
  obtain ⟨hP, hD⟩ := haf.2.1 _ hP1 hD1
  obtain ⟨LT229, hLT229⟩ : ∃ L9 : va_W, L9 = LT153 ++ [(nq154, .inr (10, [.ref xq155, .ref xq161, .ref xq175, .ref xq183, .ref xq185, .ref xq187, .int 0, .int 0])), (xq155, .inr (7, [.ref xq156, .ref xq157, .ref xq158, .ref xq159, .ref xq160, .int 0])), (xq156, .inl (cy 0, 192, .inl xf212)), (xq157, .inl (cy 0, 40, .inl (fun _ => 0))), (xq158, .inl (cy 0, 40, .inl (fun _ => 0))), (xq159, .inl (cy 0, 40, .inl (fun _ => 0))), (xq160, .inl (cy 0, 40, .inl (fun _ => 0))), (xq161, .inr (2, [.int 5, .int 9, .int 0, .ref xq162, .ref xq163, .ref xq164, .ref xq165])), (xq162, .inl (cy 0, 5, .inl xf213)), (xq163, .inl (cy 0, 5, .inl (fun _ => 0))), (xq164, .inl (cy 3, 3, .inr (.inr (.inr (.inr xg214))))), (xq165, .inl (cy 0, 5, .inl (fun _ => 0))), (xq166, .inr (1, [.ref xq167, .ref xq168, .int 0])), (xq167, .inl (cy 0, 48, .inl (fun _ => 0))), (xq168, .inl (cy 0, 48, .inl (fun _ => 0))), (xq169, .inr (1, [.ref xq170, .ref xq171, .int 0])), (xq170, .inl (cy 0, 48, .inl (fun _ => 0))), (xq171, .inl (cy 0, 48, .inl (fun _ => 0))), (xq172, .inr (1, [.ref xq173, .ref xq174, .int 0])), (xq173, .inl (cy 0, 48, .inl (fun _ => 0))), (xq174, .inl (cy 0, 48, .inl (fun _ => 0))), (xq175, .inr (3, [.ref xq176, .ref xq177, .ref xq178, .int 0, .ref xq179, .ref xq180, .int 0, .int 0, .int 0])), (xq176, .inl (cy 0, 7, .inl (fun _ => 0))), (xq177, .inl (cy 0, 7, .inl (fun _ => 0))), (xq178, .inl (cy 0, 7, .inl (fun _ => 0))), (xq179, .inr (5, [.ref xq181, .int 0])), (xq181, .inl (cy 0, 7, .inl (fun _ => 0))), (xq180, .inr (5, [.ref xq182, .int 0])), (xq182, .inl (cy 0, 7, .inl (fun _ => 0))), (xq183, .inr (5, [.ref xq184, .int 0])), (xq184, .inl (cy 0, 48, .inl (fun _ => 0))), (xq185, .inr (5, [.ref xq186, .int 0])), (xq186, .inl (cy 0, 24, .inl (fun _ => 0))), (xq187, .inl (cy 4, 8, .inr (.inr (.inr (.inr xg215))))), (xq188, .inr (9, [.int 0, .int 0, .int 0, .int 5, .int 60, .int 0, .int 0, .int 0, .int 0, .ref xq189, .ref xq190])), (xq189, .inl (cy 0, 192, .inl (fun _ => 0))), (xq190, .inl (cy 0, 192, .inl (fun _ => 0))), (xq191, .inr (9, [.int 0, .int 0, .int 0, .int 5, .int 60, .int 0, .int 0, .int 0, .int 0, .ref xq192, .ref xq193])), (xq192, .inl (cy 0, 192, .inl (fun _ => 0))), (xq193, .inl (cy 0, 192, .inl (fun _ => 0))), (xq194, .inr (9, [.int 0, .int 0, .int 0, .int 5, .int 60, .int 0, .int 0, .int 0, .int 0, .ref xq195, .ref xq196])), (xq195, .inl (cy 0, 192, .inl (fun _ => 0))), (xq196, .inl (cy 0, 192, .inl (fun _ => 0))), (xq197, .inr (9, [.int 0, .int 0, .int 0, .int 5, .int 60, .int 0, .int 0, .int 0, .int 0, .ref xq198, .ref xq199])), (xq198, .inl (cy 0, 192, .inl (fun _ => 0))), (xq199, .inl (cy 0, 192, .inl (fun _ => 0))), (xq200, .inr (9, [.int 0, .int 0, .int 0, .int 5, .int 60, .int 0, .int 0, .int 0, .int 0, .ref xq201, .ref xq202])), (xq201, .inl (cy 0, 192, .inl (fun _ => 0))), (xq202, .inl (cy 0, 192, .inl (fun _ => 0))), (xq203, .inr (9, [.int 0, .int 0, .int 0, .int 5, .int 60, .int 0, .int 0, .int 0, .int 0, .ref xq204, .ref xq205])), (xq204, .inl (cy 0, 192, .inl (fun _ => 0))), (xq205, .inl (cy 0, 192, .inl (fun _ => 0))), (xq206, .inr (9, [.int 0, .int 0, .int 0, .int 5, .int 60, .int 0, .int 0, .int 0, .int 0, .ref xq207, .ref xq208])), (xq207, .inl (cy 0, 192, .inl (fun _ => 0))), (xq208, .inl (cy 0, 192, .inl (fun _ => 0))), (xq209, .inr (9, [.int 0, .int 0, .int 0, .int 5, .int 60, .int 0, .int 0, .int 0, .int 0, .ref xq210, .ref xq211])), (xq210, .inl (cy 0, 192, .inl (fun _ => 0))), (xq211, .inl (cy 0, 192, .inl (fun _ => 0)))] := ⟨_, rfl⟩
  have hP : va_P G classes ([(h0, .inr (11, [.ref nq1, .ref nq78, .null, .null, .null, .null, .null, .null, .int 0]))] ++ LT229) H := by rw [hLT229, ← List.append_assoc]; exact hP
  have hD : va_D A ([(h0, .inr (11, [.ref nq1, .ref nq78, .null, .null, .null, .null, .null, .null, .int 0]))] ++ LT229) := by rw [hLT229, ← List.append_assoc]; exact hD
  refine va_putF (D := G) (ci := 11) (v := .ref nq154) (ty := (.object "ClickStreet$World")) (C := RX11) (T := TX11) (N := 9) hx hb hts inB11 tyX11 tyX11_ok nmX11 hown hE.1 hP hD hS 0 rfl rfl 2 (by decide) (hts _ m_461) (fun _ h9 => h9) rfl hin rfl (by decide +kernel) rfl rfl (Nat.le_of_ble_eq_true rfl) dX11_init_34 (fun H locs hP hD hS => ?_)
  have hP : va_P G classes ([(h0, .inr (11, [.ref nq1, .ref nq78, .ref nq154, .null, .null, .null, .null, .null, .int 0]))] ++ LT229) H := hP
  refine lv_aload_n hx hb dX11_init_37 rfl (lv_at hl 0 rfl) ?_
  refine lv_iconst (v := 4) hx hb dX11_init_38 (by decide) ?_
  refine nwQ (n := 4) (N := 4) (C := "ClickStreet$Sheet") (t0 := 5) hx hb hown hts m_345 (by decide) hE hP hD hS hA rfl (by decide) (by decide) (Nat.le_of_ble_eq_true rfl) (Nat.le_of_ble_eq_true rfl) (Nat.le_of_ble_eq_true rfl) dX11_init_39 (fun nq230 H hP hD hS => ?_)
  have hP := P_swap hP
  have hD := D_swap hD
  have hP : va_P G classes ([(nq230, .inl (cy 5, 4, .inr (.inr (.inr (.inr (fun _ => none)))))), (h0, .inr (11, [.ref nq1, .ref nq78, .ref nq154, .null, .null, .null, .null, .null, .int 0]))] ++ LT229) H := hP
  refine va_putF (D := G) (ci := 11) (v := .ref nq230) (ty := (.array (.object "ClickStreet$Sheet"))) (C := RX11) (T := TX11) (N := 9) hx hb hts inB11 tyX11 tyX11_ok nmX11 hown hE.1 hP hD hS 1 rfl rfl 3 (by decide) (hts _ m_462) (fun _ h9 => h9) rfl hin rfl (by decide +kernel) rfl rfl (Nat.le_of_ble_eq_true rfl) dX11_init_42 (fun H locs hP hD hS => ?_)
  have hP : va_P G classes ([(nq230, .inl (cy 5, 4, .inr (.inr (.inr (.inr (fun _ => none)))))), (h0, .inr (11, [.ref nq1, .ref nq78, .ref nq154, .ref nq230, .null, .null, .null, .null, .int 0]))] ++ LT229) H := hP
  refine lv_aload_n hx hb dX11_init_45 rfl (lv_at hl 0 rfl) ?_
  refine lv_bipush (v := 7) hx hb dX11_init_46 (by decide) ?_
  refine nwI (n := 7) (N := 7) hx hb hts m_146 hE hP hD hS hA (by decide) (by decide) (Nat.le_of_ble_eq_true rfl) (Nat.le_of_ble_eq_true rfl) (Nat.le_of_ble_eq_true rfl) dX11_init_48 (fun nq231 H hP hD hS => ?_)
  have hP := P_swap hP
  have hD := D_swap hD
  have hP : va_P G classes ([(nq231, .inl (cy 0, 7, .inl (fun _ => 0))), (nq230, .inl (cy 5, 4, .inr (.inr (.inr (.inr (fun _ => none)))))), (h0, .inr (11, [.ref nq1, .ref nq78, .ref nq154, .ref nq230, .null, .null, .null, .null, .int 0]))] ++ LT229) H := hP
  refine va_putF (D := G) (ci := 11) (v := .ref nq231) (ty := (.array .int)) (C := RX11) (T := TX11) (N := 9) hx hb hts inB11 tyX11 tyX11_ok nmX11 hown hE.1 hP hD hS 2 rfl rfl 4 (by decide) (hts _ m_463) (fun _ h9 => h9) rfl hin rfl (by decide +kernel) rfl rfl (Nat.le_of_ble_eq_true rfl) dX11_init_50 (fun H locs hP hD hS => ?_)
  have hP : va_P G classes ([(nq231, .inl (cy 0, 7, .inl (fun _ => 0))), (nq230, .inl (cy 5, 4, .inr (.inr (.inr (.inr (fun _ => none)))))), (h0, .inr (11, [.ref nq1, .ref nq78, .ref nq154, .ref nq230, .ref nq231, .null, .null, .null, .int 0]))] ++ LT229) H := hP
  refine lv_aload_n hx hb dX11_init_53 rfl (lv_at hl 0 rfl) ?_
  refine va_new (ci := 4) (fs := [.null, .null, .null, .int 0, .int 0, .int 0, .int 0]) (C := RX4) (T := TX4) (N := 7) hx hb hts inB4 tyX4 tyX4_ok hown (hts _ m_347) (hts _ m_348) (hts _ m_88) hE.1 hP hD hS hA rfl df4 (Nat.le_of_ble_eq_true rfl) (Nat.le_of_ble_eq_true rfl) dX11_init_54 (fun nq232 H hP hD hS => ?_)
  have hP := P_swap hP
  have hD := D_swap hD
  have hP : va_P G classes ([(nq232, .inr (4, [.null, .null, .null, .int 0, .int 0, .int 0, .int 0])), (nq231, .inl (cy 0, 7, .inl (fun _ => 0))), (nq230, .inl (cy 5, 4, .inr (.inr (.inr (.inr (fun _ => none)))))), (h0, .inr (11, [.ref nq1, .ref nq78, .ref nq154, .ref nq230, .ref nq231, .null, .null, .null, .int 0]))] ++ LT229) H := hP
  refine lv_dup hx hb dX11_init_57 rfl ?_
  refine wINT (B := (B_c_X4_init G cy sk (va_A [(nq232, .inr (4, [.null, .null, .null, .int 0, .int 0, .int 0, .int 0]))] H.size) nq232)) (wc := [(nq232, .inr (4, [.null, .null, .null, .int 0, .int 0, .int 0, .int 0]))]) (wr := ([(nq231, .inl (cy 0, 7, .inl (fun _ => 0))), (nq230, .inl (cy 5, 4, .inr (.inr (.inr (.inr (fun _ => none)))))), (h0, .inr (11, [.ref nq1, .ref nq78, .ref nq154, .ref nq230, .ref nq231, .null, .null, .null, .int 0]))] ++ LT229)) (rest := [.ref nq232, .ref h0]) (host := "ClickStreet") hx hb hml hown hts hE (c_X4_init l G cy sk H.size nq232) kI_X4_init (by decide +kernel) rfl rfl ⟨(Nat.le_of_ble_eq_true rfl), (Nat.le_of_ble_eq_true rfl)⟩ hP hD hS hA rfl rfl hl.1 (Nat.le_of_ble_eq_true rfl) dX11_init_58 ⟨(Nat.le_of_ble_eq_true rfl), (Nat.le_of_ble_eq_true rfl)⟩ (fun H locs haf hS => ?_)
  obtain ⟨xq233, xq234, xq235, xq236, xq237, xq238, h_239, hP1, hD1⟩ := haf.1
  obtain ⟨hP, hD⟩ := haf.2.1 _ hP1 hD1
  obtain ⟨LT240, hLT240⟩ : ∃ L9 : va_W, L9 = LT229 ++ [(nq232, .inr (4, [.ref xq233, .ref xq234, .ref xq238, .int 0, .int (-1), .int 0, .int 0])), (xq233, .inr (1, [.ref xq235, .ref xq236, .int 0])), (xq235, .inl (cy 0, 48, .inl (fun _ => 0))), (xq236, .inl (cy 0, 48, .inl (fun _ => 0))), (xq234, .inr (5, [.ref xq237, .int 0])), (xq237, .inl (cy 0, 0, .inl (fun _ => 0)))] := ⟨_, rfl⟩
  have hP : va_P G classes ([(nq231, .inl (cy 0, 7, .inl (fun _ => 0))), (nq230, .inl (cy 5, 4, .inr (.inr (.inr (.inr (fun _ => none)))))), (h0, .inr (11, [.ref nq1, .ref nq78, .ref nq154, .ref nq230, .ref nq231, .null, .null, .null, .int 0]))] ++ LT240) H := by rw [hLT240, ← List.append_assoc]; exact hP
  have hD : va_D A ([(nq231, .inl (cy 0, 7, .inl (fun _ => 0))), (nq230, .inl (cy 5, 4, .inr (.inr (.inr (.inr (fun _ => none)))))), (h0, .inr (11, [.ref nq1, .ref nq78, .ref nq154, .ref nq230, .ref nq231, .null, .null, .null, .int 0]))] ++ LT240) := by rw [hLT240, ← List.append_assoc]; exact hD
  refine va_putF (D := G) (ci := 11) (v := .ref nq232) (ty := (.object "ClickStreet$Reader")) (C := RX11) (T := TX11) (N := 9) hx hb hts inB11 tyX11 tyX11_ok nmX11 hown hE.1 hP hD hS 2 rfl rfl 5 (by decide) (hts _ m_464) (fun _ h9 => h9) rfl hin rfl (by decide +kernel) rfl rfl (Nat.le_of_ble_eq_true rfl) dX11_init_61 (fun H locs hP hD hS => ?_)
  have hP : va_P G classes ([(nq231, .inl (cy 0, 7, .inl (fun _ => 0))), (nq230, .inl (cy 5, 4, .inr (.inr (.inr (.inr (fun _ => none)))))), (h0, .inr (11, [.ref nq1, .ref nq78, .ref nq154, .ref nq230, .ref nq231, .ref nq232, .null, .null, .int 0]))] ++ LT240) H := hP
  refine lv_aload_n hx hb dX11_init_64 rfl (lv_at hl 0 rfl) ?_
  refine va_new (ci := 0) (fs := [.null, .null, .null, .null, .int 0, .int 0]) (C := RX0) (T := TX0) (N := 6) hx hb hts inB0 tyX0 tyX0_ok hown (hts _ m_382) (hts _ m_383) (hts _ m_89) hE.1 hP hD hS hA rfl df0 (Nat.le_of_ble_eq_true rfl) (Nat.le_of_ble_eq_true rfl) dX11_init_65 (fun nq241 H hP hD hS => ?_)
  have hP := P_swap hP
  have hD := D_swap hD
  have hP : va_P G classes ([(nq241, .inr (0, [.null, .null, .null, .null, .int 0, .int 0])), (nq231, .inl (cy 0, 7, .inl (fun _ => 0))), (nq230, .inl (cy 5, 4, .inr (.inr (.inr (.inr (fun _ => none)))))), (h0, .inr (11, [.ref nq1, .ref nq78, .ref nq154, .ref nq230, .ref nq231, .ref nq232, .null, .null, .int 0]))] ++ LT240) H := hP
  refine lv_dup hx hb dX11_init_68 rfl ?_
  refine wINT (B := (B_c_X0_init G cy sk (va_A [(nq241, .inr (0, [.null, .null, .null, .null, .int 0, .int 0]))] H.size) nq241)) (wc := [(nq241, .inr (0, [.null, .null, .null, .null, .int 0, .int 0]))]) (wr := ([(nq231, .inl (cy 0, 7, .inl (fun _ => 0))), (nq230, .inl (cy 5, 4, .inr (.inr (.inr (.inr (fun _ => none)))))), (h0, .inr (11, [.ref nq1, .ref nq78, .ref nq154, .ref nq230, .ref nq231, .ref nq232, .null, .null, .int 0]))] ++ LT240)) (rest := [.ref nq241, .ref h0]) (host := "ClickStreet") hx hb hml hown hts hE (c_X0_init l G cy sk H.size nq241) kI_X0_init (by decide +kernel) rfl rfl ⟨(Nat.le_of_ble_eq_true rfl), (Nat.le_of_ble_eq_true rfl)⟩ hP hD hS hA rfl rfl hl.1 (Nat.le_of_ble_eq_true rfl) dX11_init_69 ⟨(Nat.le_of_ble_eq_true rfl), (Nat.le_of_ble_eq_true rfl)⟩ (fun H locs haf hS => ?_)
  obtain ⟨xq242, xq243, xq244, xq245, hP1, hD1⟩ := haf.1
  obtain ⟨hP, hD⟩ := haf.2.1 _ hP1 hD1
  obtain ⟨LT246, hLT246⟩ : ∃ L9 : va_W, L9 = LT240 ++ [(nq241, .inr (0, [.ref xq242, .ref xq243, .ref xq244, .ref xq245, .int 0, .int 0])), (xq242, .inl (cy 0, 192, .inl (fun _ => 0))), (xq243, .inl (cy 1, 192, .inl (fun _ => 0))), (xq244, .inl (cy 2, 24, .inr (.inl (fun _ => 0)))), (xq245, .inl (cy 0, 8, .inl (fun _ => 0)))] := ⟨_, rfl⟩
  have hP : va_P G classes ([(nq231, .inl (cy 0, 7, .inl (fun _ => 0))), (nq230, .inl (cy 5, 4, .inr (.inr (.inr (.inr (fun _ => none)))))), (h0, .inr (11, [.ref nq1, .ref nq78, .ref nq154, .ref nq230, .ref nq231, .ref nq232, .null, .null, .int 0]))] ++ LT246) H := by rw [hLT246, ← List.append_assoc]; exact hP
  have hD : va_D A ([(nq231, .inl (cy 0, 7, .inl (fun _ => 0))), (nq230, .inl (cy 5, 4, .inr (.inr (.inr (.inr (fun _ => none)))))), (h0, .inr (11, [.ref nq1, .ref nq78, .ref nq154, .ref nq230, .ref nq231, .ref nq232, .null, .null, .int 0]))] ++ LT246) := by rw [hLT246, ← List.append_assoc]; exact hD
  refine va_putF (D := G) (ci := 11) (v := .ref nq241) (ty := (.object "ClickStreet$Finder")) (C := RX11) (T := TX11) (N := 9) hx hb hts inB11 tyX11 tyX11_ok nmX11 hown hE.1 hP hD hS 2 rfl rfl 6 (by decide) (hts _ m_465) (fun _ h9 => h9) rfl hin rfl (by decide +kernel) rfl rfl (Nat.le_of_ble_eq_true rfl) dX11_init_72 (fun H locs hP hD hS => ?_)
  have hP : va_P G classes ([(nq231, .inl (cy 0, 7, .inl (fun _ => 0))), (nq230, .inl (cy 5, 4, .inr (.inr (.inr (.inr (fun _ => none)))))), (h0, .inr (11, [.ref nq1, .ref nq78, .ref nq154, .ref nq230, .ref nq231, .ref nq232, .ref nq241, .null, .int 0]))] ++ LT246) H := hP
  refine lv_aload_n hx hb dX11_init_75 rfl (lv_at hl 0 rfl) ?_
  refine va_new (ci := 8) (fs := [.null, .null, .int 0, .int 0, .int 0, .int 0]) (C := RX8) (T := TX8) (N := 6) hx hb hts inB8 tyX8 tyX8_ok hown (hts _ m_411) (hts _ m_412) (hts _ m_90) hE.1 hP hD hS hA rfl df8 (Nat.le_of_ble_eq_true rfl) (Nat.le_of_ble_eq_true rfl) dX11_init_76 (fun nq247 H hP hD hS => ?_)
  have hP := P_swap hP
  have hD := D_swap hD
  have hP : va_P G classes ([(nq247, .inr (8, [.null, .null, .int 0, .int 0, .int 0, .int 0])), (nq231, .inl (cy 0, 7, .inl (fun _ => 0))), (nq230, .inl (cy 5, 4, .inr (.inr (.inr (.inr (fun _ => none)))))), (h0, .inr (11, [.ref nq1, .ref nq78, .ref nq154, .ref nq230, .ref nq231, .ref nq232, .ref nq241, .null, .int 0]))] ++ LT246) H := hP
  refine lv_dup hx hb dX11_init_79 rfl ?_
  refine wINT (B := (B_c_X8_init G cy sk (va_A [(nq247, .inr (8, [.null, .null, .int 0, .int 0, .int 0, .int 0]))] H.size) nq247)) (wc := [(nq247, .inr (8, [.null, .null, .int 0, .int 0, .int 0, .int 0]))]) (wr := ([(nq231, .inl (cy 0, 7, .inl (fun _ => 0))), (nq230, .inl (cy 5, 4, .inr (.inr (.inr (.inr (fun _ => none)))))), (h0, .inr (11, [.ref nq1, .ref nq78, .ref nq154, .ref nq230, .ref nq231, .ref nq232, .ref nq241, .null, .int 0]))] ++ LT246)) (rest := [.ref nq247, .ref h0]) (host := "ClickStreet") hx hb hml hown hts hE (c_X8_init l G cy sk H.size nq247) kI_X8_init (by decide +kernel) rfl rfl ⟨(Nat.le_of_ble_eq_true rfl), (Nat.le_of_ble_eq_true rfl)⟩ hP hD hS hA rfl rfl hl.1 (Nat.le_of_ble_eq_true rfl) dX11_init_80 ⟨(Nat.le_of_ble_eq_true rfl), (Nat.le_of_ble_eq_true rfl)⟩ (fun H locs haf hS => ?_)
  obtain ⟨xq248, xq249, xq250, xq251, hP1, hD1⟩ := haf.1
  obtain ⟨hP, hD⟩ := haf.2.1 _ hP1 hD1
  obtain ⟨LT252, hLT252⟩ : ∃ L9 : va_W, L9 = LT246 ++ [(nq247, .inr (8, [.ref xq248, .ref xq250, .int 0, .int 0, .int 0, .int 0])), (xq248, .inr (5, [.ref xq249, .int 0])), (xq249, .inl (cy 0, 30, .inl (fun _ => 0))), (xq250, .inr (5, [.ref xq251, .int 0])), (xq251, .inl (cy 0, 30, .inl (fun _ => 0)))] := ⟨_, rfl⟩
  have hP : va_P G classes ([(nq231, .inl (cy 0, 7, .inl (fun _ => 0))), (nq230, .inl (cy 5, 4, .inr (.inr (.inr (.inr (fun _ => none)))))), (h0, .inr (11, [.ref nq1, .ref nq78, .ref nq154, .ref nq230, .ref nq231, .ref nq232, .ref nq241, .null, .int 0]))] ++ LT252) H := by rw [hLT252, ← List.append_assoc]; exact hP
  have hD : va_D A ([(nq231, .inl (cy 0, 7, .inl (fun _ => 0))), (nq230, .inl (cy 5, 4, .inr (.inr (.inr (.inr (fun _ => none)))))), (h0, .inr (11, [.ref nq1, .ref nq78, .ref nq154, .ref nq230, .ref nq231, .ref nq232, .ref nq241, .null, .int 0]))] ++ LT252) := by rw [hLT252, ← List.append_assoc]; exact hD
  refine va_putF (D := G) (ci := 11) (v := .ref nq247) (ty := (.object "ClickStreet$Voices")) (C := RX11) (T := TX11) (N := 9) hx hb hts inB11 tyX11 tyX11_ok nmX11 hown hE.1 hP hD hS 2 rfl rfl 7 (by decide) (hts _ m_466) (fun _ h9 => h9) rfl hin rfl (by decide +kernel) rfl rfl (Nat.le_of_ble_eq_true rfl) dX11_init_83 (fun H locs hP hD hS => ?_)
  have hP : va_P G classes ([(nq231, .inl (cy 0, 7, .inl (fun _ => 0))), (nq230, .inl (cy 5, 4, .inr (.inr (.inr (.inr (fun _ => none)))))), (h0, .inr (11, [.ref nq1, .ref nq78, .ref nq154, .ref nq230, .ref nq231, .ref nq232, .ref nq241, .ref nq247, .int 0]))] ++ LT252) H := hP
  refine lv_aload_n hx hb dX11_init_86 rfl (lv_at hl 0 rfl) ?_
  refine lv_iconst (v := 0) hx hb dX11_init_87 (by decide) ?_
  refine va_put (D := G) (ci := 11) (v := .int 0) (ty := .int) (C := RX11) (T := TX11) (N := 9) hx hb hts inB11 tyX11 tyX11_ok nmX11 hown hE.1 hP hD hS 2 rfl rfl 8 (by decide) (hts _ m_467) (fun _ h9 => h9) rfl (by decide +kernel) rfl rfl (Nat.le_of_ble_eq_true rfl) dX11_init_88 (fun H locs hP hD hS => ?_)
  have hP : va_P G classes ([(nq231, .inl (cy 0, 7, .inl (fun _ => 0))), (nq230, .inl (cy 5, 4, .inr (.inr (.inr (.inr (fun _ => none)))))), (h0, .inr (11, [.ref nq1, .ref nq78, .ref nq154, .ref nq230, .ref nq231, .ref nq232, .ref nq241, .ref nq247, .int 0]))] ++ LT252) H := hP
  refine lv_iconst (v := 0) hx hb dX11_init_91 (by decide) ?_
  refine lv_istore_n (lv' := [(1, .int 0), (0, .ref h0)]) hx hb dX11_init_92 rfl hl (by decide) rfl (fun ls hl => ?_)
  refine lv_iload_n hx hb dX11_init_93 rfl (lv_at hl 0 rfl) ?_
  refine lv_iconst (v := 4) hx hb dX11_init_94 (by decide) ?_
  refine lv_icmp_ge (tgt := 117) hx hb dX11_init_95 (by decide) (fun h9 => absurd h9 (by decide)) (fun _ => ?_)
  refine lv_aload_n hx hb dX11_init_98 rfl (lv_at hl 1 rfl) ?_
  refine va_get (D := G) (ci := 11) (v := .ref nq230) (C := RX11) (T := TX11) (N := 9) hx hb hts inB11 hown hE.1 hP 2 rfl rfl 3 (by decide) (hts _ m_462) (fun _ h9 => h9) rfl dX11_init_99 ?_
  refine lv_iload_n hx hb dX11_init_102 rfl (lv_at hl 0 rfl) ?_
  refine va_new (ci := 6) (fs := [.int 0, .int 0, .null]) (C := RX6) (T := TX6) (N := 3) hx hb hts inB6 tyX6 tyX6_ok hown (hts _ m_345) (hts _ m_440) (hts _ m_91) hE.1 hP hD hS hA rfl df6 (Nat.le_of_ble_eq_true rfl) (Nat.le_of_ble_eq_true rfl) dX11_init_103 (fun nq253 H hP hD hS => ?_)
  have hP := P_swap hP
  have hD := D_swap hD
  have hP : va_P G classes ([(nq253, .inr (6, [.int 0, .int 0, .null])), (nq231, .inl (cy 0, 7, .inl (fun _ => 0))), (nq230, .inl (cy 5, 4, .inr (.inr (.inr (.inr (fun _ => none)))))), (h0, .inr (11, [.ref nq1, .ref nq78, .ref nq154, .ref nq230, .ref nq231, .ref nq232, .ref nq241, .ref nq247, .int 0]))] ++ LT252) H := hP
  refine lv_dup hx hb dX11_init_106 rfl ?_
  refine wINT (B := (B_c_X6_init G cy sk (va_A [(nq253, .inr (6, [.int 0, .int 0, .null]))] H.size) nq253)) (wc := [(nq253, .inr (6, [.int 0, .int 0, .null]))]) (wr := ([(nq231, .inl (cy 0, 7, .inl (fun _ => 0))), (nq230, .inl (cy 5, 4, .inr (.inr (.inr (.inr (fun _ => none)))))), (h0, .inr (11, [.ref nq1, .ref nq78, .ref nq154, .ref nq230, .ref nq231, .ref nq232, .ref nq241, .ref nq247, .int 0]))] ++ LT252)) (rest := [.ref nq253, .int 0, .ref nq230]) (host := "ClickStreet") hx hb hml hown hts hE (c_X6_init l G cy sk H.size nq253) kI_X6_init (by decide +kernel) rfl rfl ⟨(Nat.le_of_ble_eq_true rfl), (Nat.le_of_ble_eq_true rfl)⟩ hP hD hS hA rfl rfl hl.1 (Nat.le_of_ble_eq_true rfl) dX11_init_107 ⟨(Nat.le_of_ble_eq_true rfl), (Nat.le_of_ble_eq_true rfl)⟩ (fun H locs haf hS => ?_)
  obtain ⟨xq254, hP1, hD1⟩ := haf.1
  obtain ⟨hP, hD⟩ := haf.2.1 _ hP1 hD1
  have hP := P_swap hP
  have hD := D_swap hD
  have hP : va_P G classes ([(nq253, .inr (6, [.int 0, .int 0, .ref xq254])), (xq254, .inl (cy 0, 24, .inl (fun _ => 0))), (nq231, .inl (cy 0, 7, .inl (fun _ => 0))), (nq230, .inl (cy 5, 4, .inr (.inr (.inr (.inr (fun _ => none)))))), (h0, .inr (11, [.ref nq1, .ref nq78, .ref nq154, .ref nq230, .ref nq231, .ref nq232, .ref nq241, .ref nq247, .int 0]))] ++ LT252) H := hP
  refine va_astq hx hb hE.1 hP hD hS 3 5 0 6 rfl rfl rfl rfl (vinL (by decide)) dX11_init_110 (fun H locs hP hD hS => ?_)
  have hP : va_P G classes ([(nq253, .inr (6, [.int 0, .int 0, .ref xq254])), (xq254, .inl (cy 0, 24, .inl (fun _ => 0))), (nq231, .inl (cy 0, 7, .inl (fun _ => 0))), (nq230, .inl (cy 5, 4, .inr (.inr (.inr (.inr (va_up (fun _ => none) 0 (some nq253))))))), (h0, .inr (11, [.ref nq1, .ref nq78, .ref nq154, .ref nq230, .ref nq231, .ref nq232, .ref nq241, .ref nq247, .int 0]))] ++ LT252) H := hP
  refine lv_iinc (v := 1) (lv' := [(1, .int 1), (0, .ref h0)]) hx hb dX11_init_111 hl (k := 0) rfl (by decide) (by decide) rfl (fun ls hl => ?_)
  refine lv_goto (tgt := 93) hx hb dX11_init_114 (by decide) ?_
  refine lv_iload_n hx hb dX11_init_93 rfl (lv_at hl 0 rfl) ?_
  refine lv_iconst (v := 4) hx hb dX11_init_94 (by decide) ?_
  refine lv_icmp_ge (tgt := 117) hx hb dX11_init_95 (by decide) (fun h9 => absurd h9 (by decide)) (fun _ => ?_)
  refine lv_aload_n hx hb dX11_init_98 rfl (lv_at hl 1 rfl) ?_
  refine va_get (D := G) (ci := 11) (v := .ref nq230) (C := RX11) (T := TX11) (N := 9) hx hb hts inB11 hown hE.1 hP 4 rfl rfl 3 (by decide) (hts _ m_462) (fun _ h9 => h9) rfl dX11_init_99 ?_
  refine lv_iload_n hx hb dX11_init_102 rfl (lv_at hl 0 rfl) ?_
  refine va_new (ci := 6) (fs := [.int 0, .int 0, .null]) (C := RX6) (T := TX6) (N := 3) hx hb hts inB6 tyX6 tyX6_ok hown (hts _ m_345) (hts _ m_440) (hts _ m_91) hE.1 hP hD hS hA rfl df6 (Nat.le_of_ble_eq_true rfl) (Nat.le_of_ble_eq_true rfl) dX11_init_103 (fun nq255 H hP hD hS => ?_)
  have hP := P_swap hP
  have hD := D_swap hD
  have hP : va_P G classes ([(nq255, .inr (6, [.int 0, .int 0, .null])), (nq253, .inr (6, [.int 0, .int 0, .ref xq254])), (xq254, .inl (cy 0, 24, .inl (fun _ => 0))), (nq231, .inl (cy 0, 7, .inl (fun _ => 0))), (nq230, .inl (cy 5, 4, .inr (.inr (.inr (.inr (va_up (fun _ => none) 0 (some nq253))))))), (h0, .inr (11, [.ref nq1, .ref nq78, .ref nq154, .ref nq230, .ref nq231, .ref nq232, .ref nq241, .ref nq247, .int 0]))] ++ LT252) H := hP
  refine lv_dup hx hb dX11_init_106 rfl ?_
  refine wINT (B := (B_c_X6_init G cy sk (va_A [(nq255, .inr (6, [.int 0, .int 0, .null]))] H.size) nq255)) (wc := [(nq255, .inr (6, [.int 0, .int 0, .null]))]) (wr := ([(nq253, .inr (6, [.int 0, .int 0, .ref xq254])), (xq254, .inl (cy 0, 24, .inl (fun _ => 0))), (nq231, .inl (cy 0, 7, .inl (fun _ => 0))), (nq230, .inl (cy 5, 4, .inr (.inr (.inr (.inr (va_up (fun _ => none) 0 (some nq253))))))), (h0, .inr (11, [.ref nq1, .ref nq78, .ref nq154, .ref nq230, .ref nq231, .ref nq232, .ref nq241, .ref nq247, .int 0]))] ++ LT252)) (rest := [.ref nq255, .int 1, .ref nq230]) (host := "ClickStreet") hx hb hml hown hts hE (c_X6_init l G cy sk H.size nq255) kI_X6_init (by decide +kernel) rfl rfl ⟨(Nat.le_of_ble_eq_true rfl), (Nat.le_of_ble_eq_true rfl)⟩ hP hD hS hA rfl rfl hl.1 (Nat.le_of_ble_eq_true rfl) dX11_init_107 ⟨(Nat.le_of_ble_eq_true rfl), (Nat.le_of_ble_eq_true rfl)⟩ (fun H locs haf hS => ?_)
  obtain ⟨xq256, hP1, hD1⟩ := haf.1
  obtain ⟨hP, hD⟩ := haf.2.1 _ hP1 hD1
  have hP := P_swap hP
  have hD := D_swap hD
  have hP : va_P G classes ([(nq255, .inr (6, [.int 0, .int 0, .ref xq256])), (xq256, .inl (cy 0, 24, .inl (fun _ => 0))), (nq253, .inr (6, [.int 0, .int 0, .ref xq254])), (xq254, .inl (cy 0, 24, .inl (fun _ => 0))), (nq231, .inl (cy 0, 7, .inl (fun _ => 0))), (nq230, .inl (cy 5, 4, .inr (.inr (.inr (.inr (va_up (fun _ => none) 0 (some nq253))))))), (h0, .inr (11, [.ref nq1, .ref nq78, .ref nq154, .ref nq230, .ref nq231, .ref nq232, .ref nq241, .ref nq247, .int 0]))] ++ LT252) H := hP
  refine va_astq hx hb hE.1 hP hD hS 5 5 0 6 rfl rfl rfl rfl (vinL (by decide)) dX11_init_110 (fun H locs hP hD hS => ?_)
  have hP : va_P G classes ([(nq255, .inr (6, [.int 0, .int 0, .ref xq256])), (xq256, .inl (cy 0, 24, .inl (fun _ => 0))), (nq253, .inr (6, [.int 0, .int 0, .ref xq254])), (xq254, .inl (cy 0, 24, .inl (fun _ => 0))), (nq231, .inl (cy 0, 7, .inl (fun _ => 0))), (nq230, .inl (cy 5, 4, .inr (.inr (.inr (.inr (va_up (va_up (fun _ => none) 0 (some nq253)) 1 (some nq255))))))), (h0, .inr (11, [.ref nq1, .ref nq78, .ref nq154, .ref nq230, .ref nq231, .ref nq232, .ref nq241, .ref nq247, .int 0]))] ++ LT252) H := hP
  refine lv_iinc (v := 2) (lv' := [(1, .int 2), (0, .ref h0)]) hx hb dX11_init_111 hl (k := 0) rfl (by decide) (by decide) rfl (fun ls hl => ?_)
  refine lv_goto (tgt := 93) hx hb dX11_init_114 (by decide) ?_
  refine lv_iload_n hx hb dX11_init_93 rfl (lv_at hl 0 rfl) ?_
  refine lv_iconst (v := 4) hx hb dX11_init_94 (by decide) ?_
  refine lv_icmp_ge (tgt := 117) hx hb dX11_init_95 (by decide) (fun h9 => absurd h9 (by decide)) (fun _ => ?_)
  refine lv_aload_n hx hb dX11_init_98 rfl (lv_at hl 1 rfl) ?_
  refine va_get (D := G) (ci := 11) (v := .ref nq230) (C := RX11) (T := TX11) (N := 9) hx hb hts inB11 hown hE.1 hP 6 rfl rfl 3 (by decide) (hts _ m_462) (fun _ h9 => h9) rfl dX11_init_99 ?_
  refine lv_iload_n hx hb dX11_init_102 rfl (lv_at hl 0 rfl) ?_
  refine va_new (ci := 6) (fs := [.int 0, .int 0, .null]) (C := RX6) (T := TX6) (N := 3) hx hb hts inB6 tyX6 tyX6_ok hown (hts _ m_345) (hts _ m_440) (hts _ m_91) hE.1 hP hD hS hA rfl df6 (Nat.le_of_ble_eq_true rfl) (Nat.le_of_ble_eq_true rfl) dX11_init_103 (fun nq257 H hP hD hS => ?_)
  have hP := P_swap hP
  have hD := D_swap hD
  have hP : va_P G classes ([(nq257, .inr (6, [.int 0, .int 0, .null])), (nq255, .inr (6, [.int 0, .int 0, .ref xq256])), (xq256, .inl (cy 0, 24, .inl (fun _ => 0))), (nq253, .inr (6, [.int 0, .int 0, .ref xq254])), (xq254, .inl (cy 0, 24, .inl (fun _ => 0))), (nq231, .inl (cy 0, 7, .inl (fun _ => 0))), (nq230, .inl (cy 5, 4, .inr (.inr (.inr (.inr (va_up (va_up (fun _ => none) 0 (some nq253)) 1 (some nq255))))))), (h0, .inr (11, [.ref nq1, .ref nq78, .ref nq154, .ref nq230, .ref nq231, .ref nq232, .ref nq241, .ref nq247, .int 0]))] ++ LT252) H := hP
  refine lv_dup hx hb dX11_init_106 rfl ?_
  refine wINT (B := (B_c_X6_init G cy sk (va_A [(nq257, .inr (6, [.int 0, .int 0, .null]))] H.size) nq257)) (wc := [(nq257, .inr (6, [.int 0, .int 0, .null]))]) (wr := ([(nq255, .inr (6, [.int 0, .int 0, .ref xq256])), (xq256, .inl (cy 0, 24, .inl (fun _ => 0))), (nq253, .inr (6, [.int 0, .int 0, .ref xq254])), (xq254, .inl (cy 0, 24, .inl (fun _ => 0))), (nq231, .inl (cy 0, 7, .inl (fun _ => 0))), (nq230, .inl (cy 5, 4, .inr (.inr (.inr (.inr (va_up (va_up (fun _ => none) 0 (some nq253)) 1 (some nq255))))))), (h0, .inr (11, [.ref nq1, .ref nq78, .ref nq154, .ref nq230, .ref nq231, .ref nq232, .ref nq241, .ref nq247, .int 0]))] ++ LT252)) (rest := [.ref nq257, .int 2, .ref nq230]) (host := "ClickStreet") hx hb hml hown hts hE (c_X6_init l G cy sk H.size nq257) kI_X6_init (by decide +kernel) rfl rfl ⟨(Nat.le_of_ble_eq_true rfl), (Nat.le_of_ble_eq_true rfl)⟩ hP hD hS hA rfl rfl hl.1 (Nat.le_of_ble_eq_true rfl) dX11_init_107 ⟨(Nat.le_of_ble_eq_true rfl), (Nat.le_of_ble_eq_true rfl)⟩ (fun H locs haf hS => ?_)
  obtain ⟨xq258, hP1, hD1⟩ := haf.1
  obtain ⟨hP, hD⟩ := haf.2.1 _ hP1 hD1
  have hP := P_swap hP
  have hD := D_swap hD
  have hP : va_P G classes ([(nq257, .inr (6, [.int 0, .int 0, .ref xq258])), (xq258, .inl (cy 0, 24, .inl (fun _ => 0))), (nq255, .inr (6, [.int 0, .int 0, .ref xq256])), (xq256, .inl (cy 0, 24, .inl (fun _ => 0))), (nq253, .inr (6, [.int 0, .int 0, .ref xq254])), (xq254, .inl (cy 0, 24, .inl (fun _ => 0))), (nq231, .inl (cy 0, 7, .inl (fun _ => 0))), (nq230, .inl (cy 5, 4, .inr (.inr (.inr (.inr (va_up (va_up (fun _ => none) 0 (some nq253)) 1 (some nq255))))))), (h0, .inr (11, [.ref nq1, .ref nq78, .ref nq154, .ref nq230, .ref nq231, .ref nq232, .ref nq241, .ref nq247, .int 0]))] ++ LT252) H := hP
  refine va_astq hx hb hE.1 hP hD hS 7 5 0 6 rfl rfl rfl rfl (vinL (by decide)) dX11_init_110 (fun H locs hP hD hS => ?_)
  have hP : va_P G classes ([(nq257, .inr (6, [.int 0, .int 0, .ref xq258])), (xq258, .inl (cy 0, 24, .inl (fun _ => 0))), (nq255, .inr (6, [.int 0, .int 0, .ref xq256])), (xq256, .inl (cy 0, 24, .inl (fun _ => 0))), (nq253, .inr (6, [.int 0, .int 0, .ref xq254])), (xq254, .inl (cy 0, 24, .inl (fun _ => 0))), (nq231, .inl (cy 0, 7, .inl (fun _ => 0))), (nq230, .inl (cy 5, 4, .inr (.inr (.inr (.inr (va_up (va_up (va_up (fun _ => none) 0 (some nq253)) 1 (some nq255)) 2 (some nq257))))))), (h0, .inr (11, [.ref nq1, .ref nq78, .ref nq154, .ref nq230, .ref nq231, .ref nq232, .ref nq241, .ref nq247, .int 0]))] ++ LT252) H := hP
  refine lv_iinc (v := 3) (lv' := [(1, .int 3), (0, .ref h0)]) hx hb dX11_init_111 hl (k := 0) rfl (by decide) (by decide) rfl (fun ls hl => ?_)
  refine lv_goto (tgt := 93) hx hb dX11_init_114 (by decide) ?_
  refine lv_iload_n hx hb dX11_init_93 rfl (lv_at hl 0 rfl) ?_
  refine lv_iconst (v := 4) hx hb dX11_init_94 (by decide) ?_
  refine lv_icmp_ge (tgt := 117) hx hb dX11_init_95 (by decide) (fun h9 => absurd h9 (by decide)) (fun _ => ?_)
  refine lv_aload_n hx hb dX11_init_98 rfl (lv_at hl 1 rfl) ?_
  refine va_get (D := G) (ci := 11) (v := .ref nq230) (C := RX11) (T := TX11) (N := 9) hx hb hts inB11 hown hE.1 hP 8 rfl rfl 3 (by decide) (hts _ m_462) (fun _ h9 => h9) rfl dX11_init_99 ?_
  refine lv_iload_n hx hb dX11_init_102 rfl (lv_at hl 0 rfl) ?_
  refine va_new (ci := 6) (fs := [.int 0, .int 0, .null]) (C := RX6) (T := TX6) (N := 3) hx hb hts inB6 tyX6 tyX6_ok hown (hts _ m_345) (hts _ m_440) (hts _ m_91) hE.1 hP hD hS hA rfl df6 (Nat.le_of_ble_eq_true rfl) (Nat.le_of_ble_eq_true rfl) dX11_init_103 (fun nq259 H hP hD hS => ?_)
  have hP := P_swap hP
  have hD := D_swap hD
  have hP : va_P G classes ([(nq259, .inr (6, [.int 0, .int 0, .null])), (nq257, .inr (6, [.int 0, .int 0, .ref xq258])), (xq258, .inl (cy 0, 24, .inl (fun _ => 0))), (nq255, .inr (6, [.int 0, .int 0, .ref xq256])), (xq256, .inl (cy 0, 24, .inl (fun _ => 0))), (nq253, .inr (6, [.int 0, .int 0, .ref xq254])), (xq254, .inl (cy 0, 24, .inl (fun _ => 0))), (nq231, .inl (cy 0, 7, .inl (fun _ => 0))), (nq230, .inl (cy 5, 4, .inr (.inr (.inr (.inr (va_up (va_up (va_up (fun _ => none) 0 (some nq253)) 1 (some nq255)) 2 (some nq257))))))), (h0, .inr (11, [.ref nq1, .ref nq78, .ref nq154, .ref nq230, .ref nq231, .ref nq232, .ref nq241, .ref nq247, .int 0]))] ++ LT252) H := hP
  refine lv_dup hx hb dX11_init_106 rfl ?_
  refine wINT (B := (B_c_X6_init G cy sk (va_A [(nq259, .inr (6, [.int 0, .int 0, .null]))] H.size) nq259)) (wc := [(nq259, .inr (6, [.int 0, .int 0, .null]))]) (wr := ([(nq257, .inr (6, [.int 0, .int 0, .ref xq258])), (xq258, .inl (cy 0, 24, .inl (fun _ => 0))), (nq255, .inr (6, [.int 0, .int 0, .ref xq256])), (xq256, .inl (cy 0, 24, .inl (fun _ => 0))), (nq253, .inr (6, [.int 0, .int 0, .ref xq254])), (xq254, .inl (cy 0, 24, .inl (fun _ => 0))), (nq231, .inl (cy 0, 7, .inl (fun _ => 0))), (nq230, .inl (cy 5, 4, .inr (.inr (.inr (.inr (va_up (va_up (va_up (fun _ => none) 0 (some nq253)) 1 (some nq255)) 2 (some nq257))))))), (h0, .inr (11, [.ref nq1, .ref nq78, .ref nq154, .ref nq230, .ref nq231, .ref nq232, .ref nq241, .ref nq247, .int 0]))] ++ LT252)) (rest := [.ref nq259, .int 3, .ref nq230]) (host := "ClickStreet") hx hb hml hown hts hE (c_X6_init l G cy sk H.size nq259) kI_X6_init (by decide +kernel) rfl rfl ⟨(Nat.le_of_ble_eq_true rfl), (Nat.le_of_ble_eq_true rfl)⟩ hP hD hS hA rfl rfl hl.1 (Nat.le_of_ble_eq_true rfl) dX11_init_107 ⟨(Nat.le_of_ble_eq_true rfl), (Nat.le_of_ble_eq_true rfl)⟩ (fun H locs haf hS => ?_)
  obtain ⟨xq260, hP1, hD1⟩ := haf.1
  obtain ⟨hP, hD⟩ := haf.2.1 _ hP1 hD1
  have hP := P_swap hP
  have hD := D_swap hD
  have hP : va_P G classes ([(nq259, .inr (6, [.int 0, .int 0, .ref xq260])), (xq260, .inl (cy 0, 24, .inl (fun _ => 0))), (nq257, .inr (6, [.int 0, .int 0, .ref xq258])), (xq258, .inl (cy 0, 24, .inl (fun _ => 0))), (nq255, .inr (6, [.int 0, .int 0, .ref xq256])), (xq256, .inl (cy 0, 24, .inl (fun _ => 0))), (nq253, .inr (6, [.int 0, .int 0, .ref xq254])), (xq254, .inl (cy 0, 24, .inl (fun _ => 0))), (nq231, .inl (cy 0, 7, .inl (fun _ => 0))), (nq230, .inl (cy 5, 4, .inr (.inr (.inr (.inr (va_up (va_up (va_up (fun _ => none) 0 (some nq253)) 1 (some nq255)) 2 (some nq257))))))), (h0, .inr (11, [.ref nq1, .ref nq78, .ref nq154, .ref nq230, .ref nq231, .ref nq232, .ref nq241, .ref nq247, .int 0]))] ++ LT252) H := hP
  refine va_astq hx hb hE.1 hP hD hS 9 5 0 6 rfl rfl rfl rfl (vinL (by decide)) dX11_init_110 (fun H locs hP hD hS => ?_)
  have hP : va_P G classes ([(nq259, .inr (6, [.int 0, .int 0, .ref xq260])), (xq260, .inl (cy 0, 24, .inl (fun _ => 0))), (nq257, .inr (6, [.int 0, .int 0, .ref xq258])), (xq258, .inl (cy 0, 24, .inl (fun _ => 0))), (nq255, .inr (6, [.int 0, .int 0, .ref xq256])), (xq256, .inl (cy 0, 24, .inl (fun _ => 0))), (nq253, .inr (6, [.int 0, .int 0, .ref xq254])), (xq254, .inl (cy 0, 24, .inl (fun _ => 0))), (nq231, .inl (cy 0, 7, .inl (fun _ => 0))), (nq230, .inl (cy 5, 4, .inr (.inr (.inr (.inr (va_up (va_up (va_up (va_up (fun _ => none) 0 (some nq253)) 1 (some nq255)) 2 (some nq257)) 3 (some nq259))))))), (h0, .inr (11, [.ref nq1, .ref nq78, .ref nq154, .ref nq230, .ref nq231, .ref nq232, .ref nq241, .ref nq247, .int 0]))] ++ LT252) H := hP
  refine lv_iinc (v := 4) (lv' := [(1, .int 4), (0, .ref h0)]) hx hb dX11_init_111 hl (k := 0) rfl (by decide) (by decide) rfl (fun ls hl => ?_)
  refine lv_goto (tgt := 93) hx hb dX11_init_114 (by decide) ?_
  refine lv_iload_n hx hb dX11_init_93 rfl (lv_at hl 0 rfl) ?_
  refine lv_iconst (v := 4) hx hb dX11_init_94 (by decide) ?_
  refine lv_icmp_ge (tgt := 117) hx hb dX11_init_95 (by decide) (fun _ => ?_) (fun h9 => absurd h9 (by decide))
  subst hLT252 hLT246 hLT240 hLT229 hLT153 hLT77
  have hP : va_P G classes [(nq259, .inr (6, [.int 0, .int 0, .ref xq260])), (xq260, .inl (cy 0, 24, .inl (fun _ => 0))), (nq257, .inr (6, [.int 0, .int 0, .ref xq258])), (xq258, .inl (cy 0, 24, .inl (fun _ => 0))), (nq255, .inr (6, [.int 0, .int 0, .ref xq256])), (xq256, .inl (cy 0, 24, .inl (fun _ => 0))), (nq253, .inr (6, [.int 0, .int 0, .ref xq254])), (xq254, .inl (cy 0, 24, .inl (fun _ => 0))), (nq231, .inl (cy 0, 7, .inl (fun _ => 0))), (nq230, .inl (cy 5, 4, .inr (.inr (.inr (.inr (va_up (va_up (va_up (va_up (fun _ => none) 0 (some nq253)) 1 (some nq255)) 2 (some nq257)) 3 (some nq259))))))), (h0, .inr (11, [.ref nq1, .ref nq78, .ref nq154, .ref nq230, .ref nq231, .ref nq232, .ref nq241, .ref nq247, .int 0])), (nq1, .inr (10, [.ref xq3, .ref xq9, .ref xq23, .ref xq31, .ref xq33, .ref xq35, .int 0, .int 0])), (xq3, .inr (7, [.ref xq4, .ref xq5, .ref xq6, .ref xq7, .ref xq8, .int 0])), (xq4, .inl (cy 0, 192, .inl xf60)), (xq5, .inl (cy 0, 40, .inl (fun _ => 0))), (xq6, .inl (cy 0, 40, .inl (fun _ => 0))), (xq7, .inl (cy 0, 40, .inl (fun _ => 0))), (xq8, .inl (cy 0, 40, .inl (fun _ => 0))), (xq9, .inr (2, [.int 5, .int 9, .int 0, .ref xq10, .ref xq11, .ref xq12, .ref xq13])), (xq10, .inl (cy 0, 5, .inl xf61)), (xq11, .inl (cy 0, 5, .inl (fun _ => 0))), (xq12, .inl (cy 3, 3, .inr (.inr (.inr (.inr xg62))))), (xq13, .inl (cy 0, 5, .inl (fun _ => 0))), (xq14, .inr (1, [.ref xq15, .ref xq16, .int 0])), (xq15, .inl (cy 0, 48, .inl (fun _ => 0))), (xq16, .inl (cy 0, 48, .inl (fun _ => 0))), (xq17, .inr (1, [.ref xq18, .ref xq19, .int 0])), (xq18, .inl (cy 0, 48, .inl (fun _ => 0))), (xq19, .inl (cy 0, 48, .inl (fun _ => 0))), (xq20, .inr (1, [.ref xq21, .ref xq22, .int 0])), (xq21, .inl (cy 0, 48, .inl (fun _ => 0))), (xq22, .inl (cy 0, 48, .inl (fun _ => 0))), (xq23, .inr (3, [.ref xq24, .ref xq25, .ref xq26, .int 0, .ref xq27, .ref xq28, .int 0, .int 0, .int 0])), (xq24, .inl (cy 0, 7, .inl (fun _ => 0))), (xq25, .inl (cy 0, 7, .inl (fun _ => 0))), (xq26, .inl (cy 0, 7, .inl (fun _ => 0))), (xq27, .inr (5, [.ref xq29, .int 0])), (xq29, .inl (cy 0, 7, .inl (fun _ => 0))), (xq28, .inr (5, [.ref xq30, .int 0])), (xq30, .inl (cy 0, 7, .inl (fun _ => 0))), (xq31, .inr (5, [.ref xq32, .int 0])), (xq32, .inl (cy 0, 48, .inl (fun _ => 0))), (xq33, .inr (5, [.ref xq34, .int 0])), (xq34, .inl (cy 0, 24, .inl (fun _ => 0))), (xq35, .inl (cy 4, 8, .inr (.inr (.inr (.inr xg63))))), (xq36, .inr (9, [.int 0, .int 0, .int 0, .int 5, .int 60, .int 0, .int 0, .int 0, .int 0, .ref xq37, .ref xq38])), (xq37, .inl (cy 0, 192, .inl (fun _ => 0))), (xq38, .inl (cy 0, 192, .inl (fun _ => 0))), (xq39, .inr (9, [.int 0, .int 0, .int 0, .int 5, .int 60, .int 0, .int 0, .int 0, .int 0, .ref xq40, .ref xq41])), (xq40, .inl (cy 0, 192, .inl (fun _ => 0))), (xq41, .inl (cy 0, 192, .inl (fun _ => 0))), (xq42, .inr (9, [.int 0, .int 0, .int 0, .int 5, .int 60, .int 0, .int 0, .int 0, .int 0, .ref xq43, .ref xq44])), (xq43, .inl (cy 0, 192, .inl (fun _ => 0))), (xq44, .inl (cy 0, 192, .inl (fun _ => 0))), (xq45, .inr (9, [.int 0, .int 0, .int 0, .int 5, .int 60, .int 0, .int 0, .int 0, .int 0, .ref xq46, .ref xq47])), (xq46, .inl (cy 0, 192, .inl (fun _ => 0))), (xq47, .inl (cy 0, 192, .inl (fun _ => 0))), (xq48, .inr (9, [.int 0, .int 0, .int 0, .int 5, .int 60, .int 0, .int 0, .int 0, .int 0, .ref xq49, .ref xq50])), (xq49, .inl (cy 0, 192, .inl (fun _ => 0))), (xq50, .inl (cy 0, 192, .inl (fun _ => 0))), (xq51, .inr (9, [.int 0, .int 0, .int 0, .int 5, .int 60, .int 0, .int 0, .int 0, .int 0, .ref xq52, .ref xq53])), (xq52, .inl (cy 0, 192, .inl (fun _ => 0))), (xq53, .inl (cy 0, 192, .inl (fun _ => 0))), (xq54, .inr (9, [.int 0, .int 0, .int 0, .int 5, .int 60, .int 0, .int 0, .int 0, .int 0, .ref xq55, .ref xq56])), (xq55, .inl (cy 0, 192, .inl (fun _ => 0))), (xq56, .inl (cy 0, 192, .inl (fun _ => 0))), (xq57, .inr (9, [.int 0, .int 0, .int 0, .int 5, .int 60, .int 0, .int 0, .int 0, .int 0, .ref xq58, .ref xq59])), (xq58, .inl (cy 0, 192, .inl (fun _ => 0))), (xq59, .inl (cy 0, 192, .inl (fun _ => 0))), (nq78, .inr (10, [.ref xq79, .ref xq85, .ref xq99, .ref xq107, .ref xq109, .ref xq111, .int 0, .int 0])), (xq79, .inr (7, [.ref xq80, .ref xq81, .ref xq82, .ref xq83, .ref xq84, .int 0])), (xq80, .inl (cy 0, 192, .inl xf136)), (xq81, .inl (cy 0, 40, .inl (fun _ => 0))), (xq82, .inl (cy 0, 40, .inl (fun _ => 0))), (xq83, .inl (cy 0, 40, .inl (fun _ => 0))), (xq84, .inl (cy 0, 40, .inl (fun _ => 0))), (xq85, .inr (2, [.int 5, .int 9, .int 0, .ref xq86, .ref xq87, .ref xq88, .ref xq89])), (xq86, .inl (cy 0, 5, .inl xf137)), (xq87, .inl (cy 0, 5, .inl (fun _ => 0))), (xq88, .inl (cy 3, 3, .inr (.inr (.inr (.inr xg138))))), (xq89, .inl (cy 0, 5, .inl (fun _ => 0))), (xq90, .inr (1, [.ref xq91, .ref xq92, .int 0])), (xq91, .inl (cy 0, 48, .inl (fun _ => 0))), (xq92, .inl (cy 0, 48, .inl (fun _ => 0))), (xq93, .inr (1, [.ref xq94, .ref xq95, .int 0])), (xq94, .inl (cy 0, 48, .inl (fun _ => 0))), (xq95, .inl (cy 0, 48, .inl (fun _ => 0))), (xq96, .inr (1, [.ref xq97, .ref xq98, .int 0])), (xq97, .inl (cy 0, 48, .inl (fun _ => 0))), (xq98, .inl (cy 0, 48, .inl (fun _ => 0))), (xq99, .inr (3, [.ref xq100, .ref xq101, .ref xq102, .int 0, .ref xq103, .ref xq104, .int 0, .int 0, .int 0])), (xq100, .inl (cy 0, 7, .inl (fun _ => 0))), (xq101, .inl (cy 0, 7, .inl (fun _ => 0))), (xq102, .inl (cy 0, 7, .inl (fun _ => 0))), (xq103, .inr (5, [.ref xq105, .int 0])), (xq105, .inl (cy 0, 7, .inl (fun _ => 0))), (xq104, .inr (5, [.ref xq106, .int 0])), (xq106, .inl (cy 0, 7, .inl (fun _ => 0))), (xq107, .inr (5, [.ref xq108, .int 0])), (xq108, .inl (cy 0, 48, .inl (fun _ => 0))), (xq109, .inr (5, [.ref xq110, .int 0])), (xq110, .inl (cy 0, 24, .inl (fun _ => 0))), (xq111, .inl (cy 4, 8, .inr (.inr (.inr (.inr xg139))))), (xq112, .inr (9, [.int 0, .int 0, .int 0, .int 5, .int 60, .int 0, .int 0, .int 0, .int 0, .ref xq113, .ref xq114])), (xq113, .inl (cy 0, 192, .inl (fun _ => 0))), (xq114, .inl (cy 0, 192, .inl (fun _ => 0))), (xq115, .inr (9, [.int 0, .int 0, .int 0, .int 5, .int 60, .int 0, .int 0, .int 0, .int 0, .ref xq116, .ref xq117])), (xq116, .inl (cy 0, 192, .inl (fun _ => 0))), (xq117, .inl (cy 0, 192, .inl (fun _ => 0))), (xq118, .inr (9, [.int 0, .int 0, .int 0, .int 5, .int 60, .int 0, .int 0, .int 0, .int 0, .ref xq119, .ref xq120])), (xq119, .inl (cy 0, 192, .inl (fun _ => 0))), (xq120, .inl (cy 0, 192, .inl (fun _ => 0))), (xq121, .inr (9, [.int 0, .int 0, .int 0, .int 5, .int 60, .int 0, .int 0, .int 0, .int 0, .ref xq122, .ref xq123])), (xq122, .inl (cy 0, 192, .inl (fun _ => 0))), (xq123, .inl (cy 0, 192, .inl (fun _ => 0))), (xq124, .inr (9, [.int 0, .int 0, .int 0, .int 5, .int 60, .int 0, .int 0, .int 0, .int 0, .ref xq125, .ref xq126])), (xq125, .inl (cy 0, 192, .inl (fun _ => 0))), (xq126, .inl (cy 0, 192, .inl (fun _ => 0))), (xq127, .inr (9, [.int 0, .int 0, .int 0, .int 5, .int 60, .int 0, .int 0, .int 0, .int 0, .ref xq128, .ref xq129])), (xq128, .inl (cy 0, 192, .inl (fun _ => 0))), (xq129, .inl (cy 0, 192, .inl (fun _ => 0))), (xq130, .inr (9, [.int 0, .int 0, .int 0, .int 5, .int 60, .int 0, .int 0, .int 0, .int 0, .ref xq131, .ref xq132])), (xq131, .inl (cy 0, 192, .inl (fun _ => 0))), (xq132, .inl (cy 0, 192, .inl (fun _ => 0))), (xq133, .inr (9, [.int 0, .int 0, .int 0, .int 5, .int 60, .int 0, .int 0, .int 0, .int 0, .ref xq134, .ref xq135])), (xq134, .inl (cy 0, 192, .inl (fun _ => 0))), (xq135, .inl (cy 0, 192, .inl (fun _ => 0))), (nq154, .inr (10, [.ref xq155, .ref xq161, .ref xq175, .ref xq183, .ref xq185, .ref xq187, .int 0, .int 0])), (xq155, .inr (7, [.ref xq156, .ref xq157, .ref xq158, .ref xq159, .ref xq160, .int 0])), (xq156, .inl (cy 0, 192, .inl xf212)), (xq157, .inl (cy 0, 40, .inl (fun _ => 0))), (xq158, .inl (cy 0, 40, .inl (fun _ => 0))), (xq159, .inl (cy 0, 40, .inl (fun _ => 0))), (xq160, .inl (cy 0, 40, .inl (fun _ => 0))), (xq161, .inr (2, [.int 5, .int 9, .int 0, .ref xq162, .ref xq163, .ref xq164, .ref xq165])), (xq162, .inl (cy 0, 5, .inl xf213)), (xq163, .inl (cy 0, 5, .inl (fun _ => 0))), (xq164, .inl (cy 3, 3, .inr (.inr (.inr (.inr xg214))))), (xq165, .inl (cy 0, 5, .inl (fun _ => 0))), (xq166, .inr (1, [.ref xq167, .ref xq168, .int 0])), (xq167, .inl (cy 0, 48, .inl (fun _ => 0))), (xq168, .inl (cy 0, 48, .inl (fun _ => 0))), (xq169, .inr (1, [.ref xq170, .ref xq171, .int 0])), (xq170, .inl (cy 0, 48, .inl (fun _ => 0))), (xq171, .inl (cy 0, 48, .inl (fun _ => 0))), (xq172, .inr (1, [.ref xq173, .ref xq174, .int 0])), (xq173, .inl (cy 0, 48, .inl (fun _ => 0))), (xq174, .inl (cy 0, 48, .inl (fun _ => 0))), (xq175, .inr (3, [.ref xq176, .ref xq177, .ref xq178, .int 0, .ref xq179, .ref xq180, .int 0, .int 0, .int 0])), (xq176, .inl (cy 0, 7, .inl (fun _ => 0))), (xq177, .inl (cy 0, 7, .inl (fun _ => 0))), (xq178, .inl (cy 0, 7, .inl (fun _ => 0))), (xq179, .inr (5, [.ref xq181, .int 0])), (xq181, .inl (cy 0, 7, .inl (fun _ => 0))), (xq180, .inr (5, [.ref xq182, .int 0])), (xq182, .inl (cy 0, 7, .inl (fun _ => 0))), (xq183, .inr (5, [.ref xq184, .int 0])), (xq184, .inl (cy 0, 48, .inl (fun _ => 0))), (xq185, .inr (5, [.ref xq186, .int 0])), (xq186, .inl (cy 0, 24, .inl (fun _ => 0))), (xq187, .inl (cy 4, 8, .inr (.inr (.inr (.inr xg215))))), (xq188, .inr (9, [.int 0, .int 0, .int 0, .int 5, .int 60, .int 0, .int 0, .int 0, .int 0, .ref xq189, .ref xq190])), (xq189, .inl (cy 0, 192, .inl (fun _ => 0))), (xq190, .inl (cy 0, 192, .inl (fun _ => 0))), (xq191, .inr (9, [.int 0, .int 0, .int 0, .int 5, .int 60, .int 0, .int 0, .int 0, .int 0, .ref xq192, .ref xq193])), (xq192, .inl (cy 0, 192, .inl (fun _ => 0))), (xq193, .inl (cy 0, 192, .inl (fun _ => 0))), (xq194, .inr (9, [.int 0, .int 0, .int 0, .int 5, .int 60, .int 0, .int 0, .int 0, .int 0, .ref xq195, .ref xq196])), (xq195, .inl (cy 0, 192, .inl (fun _ => 0))), (xq196, .inl (cy 0, 192, .inl (fun _ => 0))), (xq197, .inr (9, [.int 0, .int 0, .int 0, .int 5, .int 60, .int 0, .int 0, .int 0, .int 0, .ref xq198, .ref xq199])), (xq198, .inl (cy 0, 192, .inl (fun _ => 0))), (xq199, .inl (cy 0, 192, .inl (fun _ => 0))), (xq200, .inr (9, [.int 0, .int 0, .int 0, .int 5, .int 60, .int 0, .int 0, .int 0, .int 0, .ref xq201, .ref xq202])), (xq201, .inl (cy 0, 192, .inl (fun _ => 0))), (xq202, .inl (cy 0, 192, .inl (fun _ => 0))), (xq203, .inr (9, [.int 0, .int 0, .int 0, .int 5, .int 60, .int 0, .int 0, .int 0, .int 0, .ref xq204, .ref xq205])), (xq204, .inl (cy 0, 192, .inl (fun _ => 0))), (xq205, .inl (cy 0, 192, .inl (fun _ => 0))), (xq206, .inr (9, [.int 0, .int 0, .int 0, .int 5, .int 60, .int 0, .int 0, .int 0, .int 0, .ref xq207, .ref xq208])), (xq207, .inl (cy 0, 192, .inl (fun _ => 0))), (xq208, .inl (cy 0, 192, .inl (fun _ => 0))), (xq209, .inr (9, [.int 0, .int 0, .int 0, .int 5, .int 60, .int 0, .int 0, .int 0, .int 0, .ref xq210, .ref xq211])), (xq210, .inl (cy 0, 192, .inl (fun _ => 0))), (xq211, .inl (cy 0, 192, .inl (fun _ => 0))), (nq232, .inr (4, [.ref xq233, .ref xq234, .ref xq238, .int 0, .int (-1), .int 0, .int 0])), (xq233, .inr (1, [.ref xq235, .ref xq236, .int 0])), (xq235, .inl (cy 0, 48, .inl (fun _ => 0))), (xq236, .inl (cy 0, 48, .inl (fun _ => 0))), (xq234, .inr (5, [.ref xq237, .int 0])), (xq237, .inl (cy 0, 0, .inl (fun _ => 0))), (nq241, .inr (0, [.ref xq242, .ref xq243, .ref xq244, .ref xq245, .int 0, .int 0])), (xq242, .inl (cy 0, 192, .inl (fun _ => 0))), (xq243, .inl (cy 1, 192, .inl (fun _ => 0))), (xq244, .inl (cy 2, 24, .inr (.inl (fun _ => 0)))), (xq245, .inl (cy 0, 8, .inl (fun _ => 0))), (nq247, .inr (8, [.ref xq248, .ref xq250, .int 0, .int 0, .int 0, .int 0])), (xq248, .inr (5, [.ref xq249, .int 0])), (xq249, .inl (cy 0, 30, .inl (fun _ => 0))), (xq250, .inr (5, [.ref xq251, .int 0])), (xq251, .inl (cy 0, 30, .inl (fun _ => 0)))] H := hP
  have hP9 : va_P G classes [(nq259, .inr (6, [.int 0, .int 0, .ref xq260])), (xq260, .inl (cy 0, 24, .inl (fun _ => 0))), (nq257, .inr (6, [.int 0, .int 0, .ref xq258])), (xq258, .inl (cy 0, 24, .inl (fun _ => 0))), (nq255, .inr (6, [.int 0, .int 0, .ref xq256])), (xq256, .inl (cy 0, 24, .inl (fun _ => 0))), (nq253, .inr (6, [.int 0, .int 0, .ref xq254])), (xq254, .inl (cy 0, 24, .inl (fun _ => 0))), (nq231, .inl (cy 0, 7, .inl (fun _ => 0))), (nq230, .inl (cy 5, 4, .inr (.inr (.inr (.inr (va_up (va_up (va_up (va_up (fun _ => none) 0 (some nq253)) 1 (some nq255)) 2 (some nq257)) 3 (some nq259))))))), (h0, .inr (11, [.ref nq1, .ref nq78, .ref nq154, .ref nq230, .ref nq231, .ref nq232, .ref nq241, .ref nq247, .int 0])), (nq1, .inr (10, [.ref xq3, .ref xq9, .ref xq23, .ref xq31, .ref xq33, .ref xq35, .int 0, .int 0])), (xq3, .inr (7, [.ref xq4, .ref xq5, .ref xq6, .ref xq7, .ref xq8, .int 0])), (xq4, .inl (cy 0, 192, .inl xf60)), (xq5, .inl (cy 0, 40, .inl (fun _ => 0))), (xq6, .inl (cy 0, 40, .inl (fun _ => 0))), (xq7, .inl (cy 0, 40, .inl (fun _ => 0))), (xq8, .inl (cy 0, 40, .inl (fun _ => 0))), (xq9, .inr (2, [.int 5, .int 9, .int 0, .ref xq10, .ref xq11, .ref xq12, .ref xq13])), (xq10, .inl (cy 0, 5, .inl xf61)), (xq11, .inl (cy 0, 5, .inl (fun _ => 0))), (xq12, .inl (cy 3, 3, .inr (.inr (.inr (.inr xg62))))), (xq13, .inl (cy 0, 5, .inl (fun _ => 0))), (xq14, .inr (1, [.ref xq15, .ref xq16, .int 0])), (xq15, .inl (cy 0, 48, .inl (fun _ => 0))), (xq16, .inl (cy 0, 48, .inl (fun _ => 0))), (xq17, .inr (1, [.ref xq18, .ref xq19, .int 0])), (xq18, .inl (cy 0, 48, .inl (fun _ => 0))), (xq19, .inl (cy 0, 48, .inl (fun _ => 0))), (xq20, .inr (1, [.ref xq21, .ref xq22, .int 0])), (xq21, .inl (cy 0, 48, .inl (fun _ => 0))), (xq22, .inl (cy 0, 48, .inl (fun _ => 0))), (xq23, .inr (3, [.ref xq24, .ref xq25, .ref xq26, .int 0, .ref xq27, .ref xq28, .int 0, .int 0, .int 0])), (xq24, .inl (cy 0, 7, .inl (fun _ => 0))), (xq25, .inl (cy 0, 7, .inl (fun _ => 0))), (xq26, .inl (cy 0, 7, .inl (fun _ => 0))), (xq27, .inr (5, [.ref xq29, .int 0])), (xq29, .inl (cy 0, 7, .inl (fun _ => 0))), (xq28, .inr (5, [.ref xq30, .int 0])), (xq30, .inl (cy 0, 7, .inl (fun _ => 0))), (xq31, .inr (5, [.ref xq32, .int 0])), (xq32, .inl (cy 0, 48, .inl (fun _ => 0))), (xq33, .inr (5, [.ref xq34, .int 0])), (xq34, .inl (cy 0, 24, .inl (fun _ => 0))), (xq35, .inl (cy 4, 8, .inr (.inr (.inr (.inr xg63))))), (xq36, .inr (9, [.int 0, .int 0, .int 0, .int 5, .int 60, .int 0, .int 0, .int 0, .int 0, .ref xq37, .ref xq38])), (xq37, .inl (cy 0, 192, .inl (fun _ => 0))), (xq38, .inl (cy 0, 192, .inl (fun _ => 0))), (xq39, .inr (9, [.int 0, .int 0, .int 0, .int 5, .int 60, .int 0, .int 0, .int 0, .int 0, .ref xq40, .ref xq41])), (xq40, .inl (cy 0, 192, .inl (fun _ => 0))), (xq41, .inl (cy 0, 192, .inl (fun _ => 0))), (xq42, .inr (9, [.int 0, .int 0, .int 0, .int 5, .int 60, .int 0, .int 0, .int 0, .int 0, .ref xq43, .ref xq44])), (xq43, .inl (cy 0, 192, .inl (fun _ => 0))), (xq44, .inl (cy 0, 192, .inl (fun _ => 0))), (xq45, .inr (9, [.int 0, .int 0, .int 0, .int 5, .int 60, .int 0, .int 0, .int 0, .int 0, .ref xq46, .ref xq47])), (xq46, .inl (cy 0, 192, .inl (fun _ => 0))), (xq47, .inl (cy 0, 192, .inl (fun _ => 0))), (xq48, .inr (9, [.int 0, .int 0, .int 0, .int 5, .int 60, .int 0, .int 0, .int 0, .int 0, .ref xq49, .ref xq50])), (xq49, .inl (cy 0, 192, .inl (fun _ => 0))), (xq50, .inl (cy 0, 192, .inl (fun _ => 0))), (xq51, .inr (9, [.int 0, .int 0, .int 0, .int 5, .int 60, .int 0, .int 0, .int 0, .int 0, .ref xq52, .ref xq53])), (xq52, .inl (cy 0, 192, .inl (fun _ => 0))), (xq53, .inl (cy 0, 192, .inl (fun _ => 0))), (xq54, .inr (9, [.int 0, .int 0, .int 0, .int 5, .int 60, .int 0, .int 0, .int 0, .int 0, .ref xq55, .ref xq56])), (xq55, .inl (cy 0, 192, .inl (fun _ => 0))), (xq56, .inl (cy 0, 192, .inl (fun _ => 0))), (xq57, .inr (9, [.int 0, .int 0, .int 0, .int 5, .int 60, .int 0, .int 0, .int 0, .int 0, .ref xq58, .ref xq59])), (xq58, .inl (cy 0, 192, .inl (fun _ => 0))), (xq59, .inl (cy 0, 192, .inl (fun _ => 0))), (nq78, .inr (10, [.ref xq79, .ref xq85, .ref xq99, .ref xq107, .ref xq109, .ref xq111, .int 0, .int 0])), (xq79, .inr (7, [.ref xq80, .ref xq81, .ref xq82, .ref xq83, .ref xq84, .int 0])), (xq80, .inl (cy 0, 192, .inl xf136)), (xq81, .inl (cy 0, 40, .inl (fun _ => 0))), (xq82, .inl (cy 0, 40, .inl (fun _ => 0))), (xq83, .inl (cy 0, 40, .inl (fun _ => 0))), (xq84, .inl (cy 0, 40, .inl (fun _ => 0))), (xq85, .inr (2, [.int 5, .int 9, .int 0, .ref xq86, .ref xq87, .ref xq88, .ref xq89])), (xq86, .inl (cy 0, 5, .inl xf137)), (xq87, .inl (cy 0, 5, .inl (fun _ => 0))), (xq88, .inl (cy 3, 3, .inr (.inr (.inr (.inr xg138))))), (xq89, .inl (cy 0, 5, .inl (fun _ => 0))), (xq90, .inr (1, [.ref xq91, .ref xq92, .int 0])), (xq91, .inl (cy 0, 48, .inl (fun _ => 0))), (xq92, .inl (cy 0, 48, .inl (fun _ => 0))), (xq93, .inr (1, [.ref xq94, .ref xq95, .int 0])), (xq94, .inl (cy 0, 48, .inl (fun _ => 0))), (xq95, .inl (cy 0, 48, .inl (fun _ => 0))), (xq96, .inr (1, [.ref xq97, .ref xq98, .int 0])), (xq97, .inl (cy 0, 48, .inl (fun _ => 0))), (xq98, .inl (cy 0, 48, .inl (fun _ => 0))), (xq99, .inr (3, [.ref xq100, .ref xq101, .ref xq102, .int 0, .ref xq103, .ref xq104, .int 0, .int 0, .int 0])), (xq100, .inl (cy 0, 7, .inl (fun _ => 0))), (xq101, .inl (cy 0, 7, .inl (fun _ => 0))), (xq102, .inl (cy 0, 7, .inl (fun _ => 0))), (xq103, .inr (5, [.ref xq105, .int 0])), (xq105, .inl (cy 0, 7, .inl (fun _ => 0))), (xq104, .inr (5, [.ref xq106, .int 0])), (xq106, .inl (cy 0, 7, .inl (fun _ => 0))), (xq107, .inr (5, [.ref xq108, .int 0])), (xq108, .inl (cy 0, 48, .inl (fun _ => 0))), (xq109, .inr (5, [.ref xq110, .int 0])), (xq110, .inl (cy 0, 24, .inl (fun _ => 0))), (xq111, .inl (cy 4, 8, .inr (.inr (.inr (.inr xg139))))), (xq112, .inr (9, [.int 0, .int 0, .int 0, .int 5, .int 60, .int 0, .int 0, .int 0, .int 0, .ref xq113, .ref xq114])), (xq113, .inl (cy 0, 192, .inl (fun _ => 0))), (xq114, .inl (cy 0, 192, .inl (fun _ => 0))), (xq115, .inr (9, [.int 0, .int 0, .int 0, .int 5, .int 60, .int 0, .int 0, .int 0, .int 0, .ref xq116, .ref xq117])), (xq116, .inl (cy 0, 192, .inl (fun _ => 0))), (xq117, .inl (cy 0, 192, .inl (fun _ => 0))), (xq118, .inr (9, [.int 0, .int 0, .int 0, .int 5, .int 60, .int 0, .int 0, .int 0, .int 0, .ref xq119, .ref xq120])), (xq119, .inl (cy 0, 192, .inl (fun _ => 0))), (xq120, .inl (cy 0, 192, .inl (fun _ => 0))), (xq121, .inr (9, [.int 0, .int 0, .int 0, .int 5, .int 60, .int 0, .int 0, .int 0, .int 0, .ref xq122, .ref xq123])), (xq122, .inl (cy 0, 192, .inl (fun _ => 0))), (xq123, .inl (cy 0, 192, .inl (fun _ => 0))), (xq124, .inr (9, [.int 0, .int 0, .int 0, .int 5, .int 60, .int 0, .int 0, .int 0, .int 0, .ref xq125, .ref xq126])), (xq125, .inl (cy 0, 192, .inl (fun _ => 0))), (xq126, .inl (cy 0, 192, .inl (fun _ => 0))), (xq127, .inr (9, [.int 0, .int 0, .int 0, .int 5, .int 60, .int 0, .int 0, .int 0, .int 0, .ref xq128, .ref xq129])), (xq128, .inl (cy 0, 192, .inl (fun _ => 0))), (xq129, .inl (cy 0, 192, .inl (fun _ => 0))), (xq130, .inr (9, [.int 0, .int 0, .int 0, .int 5, .int 60, .int 0, .int 0, .int 0, .int 0, .ref xq131, .ref xq132])), (xq131, .inl (cy 0, 192, .inl (fun _ => 0))), (xq132, .inl (cy 0, 192, .inl (fun _ => 0))), (xq133, .inr (9, [.int 0, .int 0, .int 0, .int 5, .int 60, .int 0, .int 0, .int 0, .int 0, .ref xq134, .ref xq135])), (xq134, .inl (cy 0, 192, .inl (fun _ => 0))), (xq135, .inl (cy 0, 192, .inl (fun _ => 0))), (nq154, .inr (10, [.ref xq155, .ref xq161, .ref xq175, .ref xq183, .ref xq185, .ref xq187, .int 0, .int 0])), (xq155, .inr (7, [.ref xq156, .ref xq157, .ref xq158, .ref xq159, .ref xq160, .int 0])), (xq156, .inl (cy 0, 192, .inl xf212)), (xq157, .inl (cy 0, 40, .inl (fun _ => 0))), (xq158, .inl (cy 0, 40, .inl (fun _ => 0))), (xq159, .inl (cy 0, 40, .inl (fun _ => 0))), (xq160, .inl (cy 0, 40, .inl (fun _ => 0))), (xq161, .inr (2, [.int 5, .int 9, .int 0, .ref xq162, .ref xq163, .ref xq164, .ref xq165])), (xq162, .inl (cy 0, 5, .inl xf213)), (xq163, .inl (cy 0, 5, .inl (fun _ => 0))), (xq164, .inl (cy 3, 3, .inr (.inr (.inr (.inr xg214))))), (xq165, .inl (cy 0, 5, .inl (fun _ => 0))), (xq166, .inr (1, [.ref xq167, .ref xq168, .int 0])), (xq167, .inl (cy 0, 48, .inl (fun _ => 0))), (xq168, .inl (cy 0, 48, .inl (fun _ => 0))), (xq169, .inr (1, [.ref xq170, .ref xq171, .int 0])), (xq170, .inl (cy 0, 48, .inl (fun _ => 0))), (xq171, .inl (cy 0, 48, .inl (fun _ => 0))), (xq172, .inr (1, [.ref xq173, .ref xq174, .int 0])), (xq173, .inl (cy 0, 48, .inl (fun _ => 0))), (xq174, .inl (cy 0, 48, .inl (fun _ => 0))), (xq175, .inr (3, [.ref xq176, .ref xq177, .ref xq178, .int 0, .ref xq179, .ref xq180, .int 0, .int 0, .int 0])), (xq176, .inl (cy 0, 7, .inl (fun _ => 0))), (xq177, .inl (cy 0, 7, .inl (fun _ => 0))), (xq178, .inl (cy 0, 7, .inl (fun _ => 0))), (xq179, .inr (5, [.ref xq181, .int 0])), (xq181, .inl (cy 0, 7, .inl (fun _ => 0))), (xq180, .inr (5, [.ref xq182, .int 0])), (xq182, .inl (cy 0, 7, .inl (fun _ => 0))), (xq183, .inr (5, [.ref xq184, .int 0])), (xq184, .inl (cy 0, 48, .inl (fun _ => 0))), (xq185, .inr (5, [.ref xq186, .int 0])), (xq186, .inl (cy 0, 24, .inl (fun _ => 0))), (xq187, .inl (cy 4, 8, .inr (.inr (.inr (.inr xg215))))), (xq188, .inr (9, [.int 0, .int 0, .int 0, .int 5, .int 60, .int 0, .int 0, .int 0, .int 0, .ref xq189, .ref xq190])), (xq189, .inl (cy 0, 192, .inl (fun _ => 0))), (xq190, .inl (cy 0, 192, .inl (fun _ => 0))), (xq191, .inr (9, [.int 0, .int 0, .int 0, .int 5, .int 60, .int 0, .int 0, .int 0, .int 0, .ref xq192, .ref xq193])), (xq192, .inl (cy 0, 192, .inl (fun _ => 0))), (xq193, .inl (cy 0, 192, .inl (fun _ => 0))), (xq194, .inr (9, [.int 0, .int 0, .int 0, .int 5, .int 60, .int 0, .int 0, .int 0, .int 0, .ref xq195, .ref xq196])), (xq195, .inl (cy 0, 192, .inl (fun _ => 0))), (xq196, .inl (cy 0, 192, .inl (fun _ => 0))), (xq197, .inr (9, [.int 0, .int 0, .int 0, .int 5, .int 60, .int 0, .int 0, .int 0, .int 0, .ref xq198, .ref xq199])), (xq198, .inl (cy 0, 192, .inl (fun _ => 0))), (xq199, .inl (cy 0, 192, .inl (fun _ => 0))), (xq200, .inr (9, [.int 0, .int 0, .int 0, .int 5, .int 60, .int 0, .int 0, .int 0, .int 0, .ref xq201, .ref xq202])), (xq201, .inl (cy 0, 192, .inl (fun _ => 0))), (xq202, .inl (cy 0, 192, .inl (fun _ => 0))), (xq203, .inr (9, [.int 0, .int 0, .int 0, .int 5, .int 60, .int 0, .int 0, .int 0, .int 0, .ref xq204, .ref xq205])), (xq204, .inl (cy 0, 192, .inl (fun _ => 0))), (xq205, .inl (cy 0, 192, .inl (fun _ => 0))), (xq206, .inr (9, [.int 0, .int 0, .int 0, .int 5, .int 60, .int 0, .int 0, .int 0, .int 0, .ref xq207, .ref xq208])), (xq207, .inl (cy 0, 192, .inl (fun _ => 0))), (xq208, .inl (cy 0, 192, .inl (fun _ => 0))), (xq209, .inr (9, [.int 0, .int 0, .int 0, .int 5, .int 60, .int 0, .int 0, .int 0, .int 0, .ref xq210, .ref xq211])), (xq210, .inl (cy 0, 192, .inl (fun _ => 0))), (xq211, .inl (cy 0, 192, .inl (fun _ => 0))), (nq232, .inr (4, [.ref xq233, .ref xq234, .ref xq238, .int 0, .int (-1), .int 0, .int 0])), (xq233, .inr (1, [.ref xq235, .ref xq236, .int 0])), (xq235, .inl (cy 0, 48, .inl (fun _ => 0))), (xq236, .inl (cy 0, 48, .inl (fun _ => 0))), (xq234, .inr (5, [.ref xq237, .int 0])), (xq237, .inl (cy 0, 0, .inl (fun _ => 0))), (nq241, .inr (0, [.ref xq242, .ref xq243, .ref xq244, .ref xq245, .int 0, .int 0])), (xq242, .inl (cy 0, 192, .inl (fun _ => 0))), (xq243, .inl (cy 1, 192, .inl (fun _ => 0))), (xq244, .inl (cy 2, 24, .inr (.inl (fun _ => 0)))), (xq245, .inl (cy 0, 8, .inl (fun _ => 0))), (nq247, .inr (8, [.ref xq248, .ref xq250, .int 0, .int 0, .int 0, .int 0])), (xq248, .inr (5, [.ref xq249, .int 0])), (xq249, .inl (cy 0, 30, .inl (fun _ => 0))), (xq250, .inr (5, [.ref xq251, .int 0])), (xq251, .inl (cy 0, 30, .inl (fun _ => 0)))] H := hP
  have hD9 : va_D A [(nq259, .inr (6, [.int 0, .int 0, .ref xq260])), (xq260, .inl (cy 0, 24, .inl (fun _ => 0))), (nq257, .inr (6, [.int 0, .int 0, .ref xq258])), (xq258, .inl (cy 0, 24, .inl (fun _ => 0))), (nq255, .inr (6, [.int 0, .int 0, .ref xq256])), (xq256, .inl (cy 0, 24, .inl (fun _ => 0))), (nq253, .inr (6, [.int 0, .int 0, .ref xq254])), (xq254, .inl (cy 0, 24, .inl (fun _ => 0))), (nq231, .inl (cy 0, 7, .inl (fun _ => 0))), (nq230, .inl (cy 5, 4, .inr (.inr (.inr (.inr (va_up (va_up (va_up (va_up (fun _ => none) 0 (some nq253)) 1 (some nq255)) 2 (some nq257)) 3 (some nq259))))))), (h0, .inr (11, [.ref nq1, .ref nq78, .ref nq154, .ref nq230, .ref nq231, .ref nq232, .ref nq241, .ref nq247, .int 0])), (nq1, .inr (10, [.ref xq3, .ref xq9, .ref xq23, .ref xq31, .ref xq33, .ref xq35, .int 0, .int 0])), (xq3, .inr (7, [.ref xq4, .ref xq5, .ref xq6, .ref xq7, .ref xq8, .int 0])), (xq4, .inl (cy 0, 192, .inl xf60)), (xq5, .inl (cy 0, 40, .inl (fun _ => 0))), (xq6, .inl (cy 0, 40, .inl (fun _ => 0))), (xq7, .inl (cy 0, 40, .inl (fun _ => 0))), (xq8, .inl (cy 0, 40, .inl (fun _ => 0))), (xq9, .inr (2, [.int 5, .int 9, .int 0, .ref xq10, .ref xq11, .ref xq12, .ref xq13])), (xq10, .inl (cy 0, 5, .inl xf61)), (xq11, .inl (cy 0, 5, .inl (fun _ => 0))), (xq12, .inl (cy 3, 3, .inr (.inr (.inr (.inr xg62))))), (xq13, .inl (cy 0, 5, .inl (fun _ => 0))), (xq14, .inr (1, [.ref xq15, .ref xq16, .int 0])), (xq15, .inl (cy 0, 48, .inl (fun _ => 0))), (xq16, .inl (cy 0, 48, .inl (fun _ => 0))), (xq17, .inr (1, [.ref xq18, .ref xq19, .int 0])), (xq18, .inl (cy 0, 48, .inl (fun _ => 0))), (xq19, .inl (cy 0, 48, .inl (fun _ => 0))), (xq20, .inr (1, [.ref xq21, .ref xq22, .int 0])), (xq21, .inl (cy 0, 48, .inl (fun _ => 0))), (xq22, .inl (cy 0, 48, .inl (fun _ => 0))), (xq23, .inr (3, [.ref xq24, .ref xq25, .ref xq26, .int 0, .ref xq27, .ref xq28, .int 0, .int 0, .int 0])), (xq24, .inl (cy 0, 7, .inl (fun _ => 0))), (xq25, .inl (cy 0, 7, .inl (fun _ => 0))), (xq26, .inl (cy 0, 7, .inl (fun _ => 0))), (xq27, .inr (5, [.ref xq29, .int 0])), (xq29, .inl (cy 0, 7, .inl (fun _ => 0))), (xq28, .inr (5, [.ref xq30, .int 0])), (xq30, .inl (cy 0, 7, .inl (fun _ => 0))), (xq31, .inr (5, [.ref xq32, .int 0])), (xq32, .inl (cy 0, 48, .inl (fun _ => 0))), (xq33, .inr (5, [.ref xq34, .int 0])), (xq34, .inl (cy 0, 24, .inl (fun _ => 0))), (xq35, .inl (cy 4, 8, .inr (.inr (.inr (.inr xg63))))), (xq36, .inr (9, [.int 0, .int 0, .int 0, .int 5, .int 60, .int 0, .int 0, .int 0, .int 0, .ref xq37, .ref xq38])), (xq37, .inl (cy 0, 192, .inl (fun _ => 0))), (xq38, .inl (cy 0, 192, .inl (fun _ => 0))), (xq39, .inr (9, [.int 0, .int 0, .int 0, .int 5, .int 60, .int 0, .int 0, .int 0, .int 0, .ref xq40, .ref xq41])), (xq40, .inl (cy 0, 192, .inl (fun _ => 0))), (xq41, .inl (cy 0, 192, .inl (fun _ => 0))), (xq42, .inr (9, [.int 0, .int 0, .int 0, .int 5, .int 60, .int 0, .int 0, .int 0, .int 0, .ref xq43, .ref xq44])), (xq43, .inl (cy 0, 192, .inl (fun _ => 0))), (xq44, .inl (cy 0, 192, .inl (fun _ => 0))), (xq45, .inr (9, [.int 0, .int 0, .int 0, .int 5, .int 60, .int 0, .int 0, .int 0, .int 0, .ref xq46, .ref xq47])), (xq46, .inl (cy 0, 192, .inl (fun _ => 0))), (xq47, .inl (cy 0, 192, .inl (fun _ => 0))), (xq48, .inr (9, [.int 0, .int 0, .int 0, .int 5, .int 60, .int 0, .int 0, .int 0, .int 0, .ref xq49, .ref xq50])), (xq49, .inl (cy 0, 192, .inl (fun _ => 0))), (xq50, .inl (cy 0, 192, .inl (fun _ => 0))), (xq51, .inr (9, [.int 0, .int 0, .int 0, .int 5, .int 60, .int 0, .int 0, .int 0, .int 0, .ref xq52, .ref xq53])), (xq52, .inl (cy 0, 192, .inl (fun _ => 0))), (xq53, .inl (cy 0, 192, .inl (fun _ => 0))), (xq54, .inr (9, [.int 0, .int 0, .int 0, .int 5, .int 60, .int 0, .int 0, .int 0, .int 0, .ref xq55, .ref xq56])), (xq55, .inl (cy 0, 192, .inl (fun _ => 0))), (xq56, .inl (cy 0, 192, .inl (fun _ => 0))), (xq57, .inr (9, [.int 0, .int 0, .int 0, .int 5, .int 60, .int 0, .int 0, .int 0, .int 0, .ref xq58, .ref xq59])), (xq58, .inl (cy 0, 192, .inl (fun _ => 0))), (xq59, .inl (cy 0, 192, .inl (fun _ => 0))), (nq78, .inr (10, [.ref xq79, .ref xq85, .ref xq99, .ref xq107, .ref xq109, .ref xq111, .int 0, .int 0])), (xq79, .inr (7, [.ref xq80, .ref xq81, .ref xq82, .ref xq83, .ref xq84, .int 0])), (xq80, .inl (cy 0, 192, .inl xf136)), (xq81, .inl (cy 0, 40, .inl (fun _ => 0))), (xq82, .inl (cy 0, 40, .inl (fun _ => 0))), (xq83, .inl (cy 0, 40, .inl (fun _ => 0))), (xq84, .inl (cy 0, 40, .inl (fun _ => 0))), (xq85, .inr (2, [.int 5, .int 9, .int 0, .ref xq86, .ref xq87, .ref xq88, .ref xq89])), (xq86, .inl (cy 0, 5, .inl xf137)), (xq87, .inl (cy 0, 5, .inl (fun _ => 0))), (xq88, .inl (cy 3, 3, .inr (.inr (.inr (.inr xg138))))), (xq89, .inl (cy 0, 5, .inl (fun _ => 0))), (xq90, .inr (1, [.ref xq91, .ref xq92, .int 0])), (xq91, .inl (cy 0, 48, .inl (fun _ => 0))), (xq92, .inl (cy 0, 48, .inl (fun _ => 0))), (xq93, .inr (1, [.ref xq94, .ref xq95, .int 0])), (xq94, .inl (cy 0, 48, .inl (fun _ => 0))), (xq95, .inl (cy 0, 48, .inl (fun _ => 0))), (xq96, .inr (1, [.ref xq97, .ref xq98, .int 0])), (xq97, .inl (cy 0, 48, .inl (fun _ => 0))), (xq98, .inl (cy 0, 48, .inl (fun _ => 0))), (xq99, .inr (3, [.ref xq100, .ref xq101, .ref xq102, .int 0, .ref xq103, .ref xq104, .int 0, .int 0, .int 0])), (xq100, .inl (cy 0, 7, .inl (fun _ => 0))), (xq101, .inl (cy 0, 7, .inl (fun _ => 0))), (xq102, .inl (cy 0, 7, .inl (fun _ => 0))), (xq103, .inr (5, [.ref xq105, .int 0])), (xq105, .inl (cy 0, 7, .inl (fun _ => 0))), (xq104, .inr (5, [.ref xq106, .int 0])), (xq106, .inl (cy 0, 7, .inl (fun _ => 0))), (xq107, .inr (5, [.ref xq108, .int 0])), (xq108, .inl (cy 0, 48, .inl (fun _ => 0))), (xq109, .inr (5, [.ref xq110, .int 0])), (xq110, .inl (cy 0, 24, .inl (fun _ => 0))), (xq111, .inl (cy 4, 8, .inr (.inr (.inr (.inr xg139))))), (xq112, .inr (9, [.int 0, .int 0, .int 0, .int 5, .int 60, .int 0, .int 0, .int 0, .int 0, .ref xq113, .ref xq114])), (xq113, .inl (cy 0, 192, .inl (fun _ => 0))), (xq114, .inl (cy 0, 192, .inl (fun _ => 0))), (xq115, .inr (9, [.int 0, .int 0, .int 0, .int 5, .int 60, .int 0, .int 0, .int 0, .int 0, .ref xq116, .ref xq117])), (xq116, .inl (cy 0, 192, .inl (fun _ => 0))), (xq117, .inl (cy 0, 192, .inl (fun _ => 0))), (xq118, .inr (9, [.int 0, .int 0, .int 0, .int 5, .int 60, .int 0, .int 0, .int 0, .int 0, .ref xq119, .ref xq120])), (xq119, .inl (cy 0, 192, .inl (fun _ => 0))), (xq120, .inl (cy 0, 192, .inl (fun _ => 0))), (xq121, .inr (9, [.int 0, .int 0, .int 0, .int 5, .int 60, .int 0, .int 0, .int 0, .int 0, .ref xq122, .ref xq123])), (xq122, .inl (cy 0, 192, .inl (fun _ => 0))), (xq123, .inl (cy 0, 192, .inl (fun _ => 0))), (xq124, .inr (9, [.int 0, .int 0, .int 0, .int 5, .int 60, .int 0, .int 0, .int 0, .int 0, .ref xq125, .ref xq126])), (xq125, .inl (cy 0, 192, .inl (fun _ => 0))), (xq126, .inl (cy 0, 192, .inl (fun _ => 0))), (xq127, .inr (9, [.int 0, .int 0, .int 0, .int 5, .int 60, .int 0, .int 0, .int 0, .int 0, .ref xq128, .ref xq129])), (xq128, .inl (cy 0, 192, .inl (fun _ => 0))), (xq129, .inl (cy 0, 192, .inl (fun _ => 0))), (xq130, .inr (9, [.int 0, .int 0, .int 0, .int 5, .int 60, .int 0, .int 0, .int 0, .int 0, .ref xq131, .ref xq132])), (xq131, .inl (cy 0, 192, .inl (fun _ => 0))), (xq132, .inl (cy 0, 192, .inl (fun _ => 0))), (xq133, .inr (9, [.int 0, .int 0, .int 0, .int 5, .int 60, .int 0, .int 0, .int 0, .int 0, .ref xq134, .ref xq135])), (xq134, .inl (cy 0, 192, .inl (fun _ => 0))), (xq135, .inl (cy 0, 192, .inl (fun _ => 0))), (nq154, .inr (10, [.ref xq155, .ref xq161, .ref xq175, .ref xq183, .ref xq185, .ref xq187, .int 0, .int 0])), (xq155, .inr (7, [.ref xq156, .ref xq157, .ref xq158, .ref xq159, .ref xq160, .int 0])), (xq156, .inl (cy 0, 192, .inl xf212)), (xq157, .inl (cy 0, 40, .inl (fun _ => 0))), (xq158, .inl (cy 0, 40, .inl (fun _ => 0))), (xq159, .inl (cy 0, 40, .inl (fun _ => 0))), (xq160, .inl (cy 0, 40, .inl (fun _ => 0))), (xq161, .inr (2, [.int 5, .int 9, .int 0, .ref xq162, .ref xq163, .ref xq164, .ref xq165])), (xq162, .inl (cy 0, 5, .inl xf213)), (xq163, .inl (cy 0, 5, .inl (fun _ => 0))), (xq164, .inl (cy 3, 3, .inr (.inr (.inr (.inr xg214))))), (xq165, .inl (cy 0, 5, .inl (fun _ => 0))), (xq166, .inr (1, [.ref xq167, .ref xq168, .int 0])), (xq167, .inl (cy 0, 48, .inl (fun _ => 0))), (xq168, .inl (cy 0, 48, .inl (fun _ => 0))), (xq169, .inr (1, [.ref xq170, .ref xq171, .int 0])), (xq170, .inl (cy 0, 48, .inl (fun _ => 0))), (xq171, .inl (cy 0, 48, .inl (fun _ => 0))), (xq172, .inr (1, [.ref xq173, .ref xq174, .int 0])), (xq173, .inl (cy 0, 48, .inl (fun _ => 0))), (xq174, .inl (cy 0, 48, .inl (fun _ => 0))), (xq175, .inr (3, [.ref xq176, .ref xq177, .ref xq178, .int 0, .ref xq179, .ref xq180, .int 0, .int 0, .int 0])), (xq176, .inl (cy 0, 7, .inl (fun _ => 0))), (xq177, .inl (cy 0, 7, .inl (fun _ => 0))), (xq178, .inl (cy 0, 7, .inl (fun _ => 0))), (xq179, .inr (5, [.ref xq181, .int 0])), (xq181, .inl (cy 0, 7, .inl (fun _ => 0))), (xq180, .inr (5, [.ref xq182, .int 0])), (xq182, .inl (cy 0, 7, .inl (fun _ => 0))), (xq183, .inr (5, [.ref xq184, .int 0])), (xq184, .inl (cy 0, 48, .inl (fun _ => 0))), (xq185, .inr (5, [.ref xq186, .int 0])), (xq186, .inl (cy 0, 24, .inl (fun _ => 0))), (xq187, .inl (cy 4, 8, .inr (.inr (.inr (.inr xg215))))), (xq188, .inr (9, [.int 0, .int 0, .int 0, .int 5, .int 60, .int 0, .int 0, .int 0, .int 0, .ref xq189, .ref xq190])), (xq189, .inl (cy 0, 192, .inl (fun _ => 0))), (xq190, .inl (cy 0, 192, .inl (fun _ => 0))), (xq191, .inr (9, [.int 0, .int 0, .int 0, .int 5, .int 60, .int 0, .int 0, .int 0, .int 0, .ref xq192, .ref xq193])), (xq192, .inl (cy 0, 192, .inl (fun _ => 0))), (xq193, .inl (cy 0, 192, .inl (fun _ => 0))), (xq194, .inr (9, [.int 0, .int 0, .int 0, .int 5, .int 60, .int 0, .int 0, .int 0, .int 0, .ref xq195, .ref xq196])), (xq195, .inl (cy 0, 192, .inl (fun _ => 0))), (xq196, .inl (cy 0, 192, .inl (fun _ => 0))), (xq197, .inr (9, [.int 0, .int 0, .int 0, .int 5, .int 60, .int 0, .int 0, .int 0, .int 0, .ref xq198, .ref xq199])), (xq198, .inl (cy 0, 192, .inl (fun _ => 0))), (xq199, .inl (cy 0, 192, .inl (fun _ => 0))), (xq200, .inr (9, [.int 0, .int 0, .int 0, .int 5, .int 60, .int 0, .int 0, .int 0, .int 0, .ref xq201, .ref xq202])), (xq201, .inl (cy 0, 192, .inl (fun _ => 0))), (xq202, .inl (cy 0, 192, .inl (fun _ => 0))), (xq203, .inr (9, [.int 0, .int 0, .int 0, .int 5, .int 60, .int 0, .int 0, .int 0, .int 0, .ref xq204, .ref xq205])), (xq204, .inl (cy 0, 192, .inl (fun _ => 0))), (xq205, .inl (cy 0, 192, .inl (fun _ => 0))), (xq206, .inr (9, [.int 0, .int 0, .int 0, .int 5, .int 60, .int 0, .int 0, .int 0, .int 0, .ref xq207, .ref xq208])), (xq207, .inl (cy 0, 192, .inl (fun _ => 0))), (xq208, .inl (cy 0, 192, .inl (fun _ => 0))), (xq209, .inr (9, [.int 0, .int 0, .int 0, .int 5, .int 60, .int 0, .int 0, .int 0, .int 0, .ref xq210, .ref xq211])), (xq210, .inl (cy 0, 192, .inl (fun _ => 0))), (xq211, .inl (cy 0, 192, .inl (fun _ => 0))), (nq232, .inr (4, [.ref xq233, .ref xq234, .ref xq238, .int 0, .int (-1), .int 0, .int 0])), (xq233, .inr (1, [.ref xq235, .ref xq236, .int 0])), (xq235, .inl (cy 0, 48, .inl (fun _ => 0))), (xq236, .inl (cy 0, 48, .inl (fun _ => 0))), (xq234, .inr (5, [.ref xq237, .int 0])), (xq237, .inl (cy 0, 0, .inl (fun _ => 0))), (nq241, .inr (0, [.ref xq242, .ref xq243, .ref xq244, .ref xq245, .int 0, .int 0])), (xq242, .inl (cy 0, 192, .inl (fun _ => 0))), (xq243, .inl (cy 1, 192, .inl (fun _ => 0))), (xq244, .inl (cy 2, 24, .inr (.inl (fun _ => 0)))), (xq245, .inl (cy 0, 8, .inl (fun _ => 0))), (nq247, .inr (8, [.ref xq248, .ref xq250, .int 0, .int 0, .int 0, .int 0])), (xq248, .inr (5, [.ref xq249, .int 0])), (xq249, .inl (cy 0, 30, .inl (fun _ => 0))), (xq250, .inr (5, [.ref xq251, .int 0])), (xq251, .inl (cy 0, 30, .inl (fun _ => 0)))] := hD
  refine W.widen (k := 200) (n := 13841) (by first | exact Nat.le_of_ble_eq_true rfl | omega) (by first | exact Nat.le_of_ble_eq_true rfl | omega) ?_
  exact W.vret hx hb hr (fun t ht hW => ⟨⟨(), rfl, trivial, by dsimp only; rw [ht]; exact ⟨nq1, nq78, nq154, nq230, nq231, nq232, nq241, nq247, xq3, xq4, xq5, xq6, xq7, xq8, xq9, xq10, xq11, xq12, xq13, xq14, xq15, xq16, xq17, xq18, xq19, xq20, xq21, xq22, xq23, xq24, xq25, xq26, xq27, xq28, xq29, xq30, xq31, xq32, xq33, xq34, xq35, xq36, xq37, xq38, xq39, xq40, xq41, xq42, xq43, xq44, xq45, xq46, xq47, xq48, xq49, xq50, xq51, xq52, xq53, xq54, xq55, xq56, xq57, xq58, xq59, xf60, xf61, xg62, xg63, xq79, xq80, xq81, xq82, xq83, xq84, xq85, xq86, xq87, xq88, xq89, xq90, xq91, xq92, xq93, xq94, xq95, xq96, xq97, xq98, xq99, xq100, xq101, xq102, xq103, xq104, xq105, xq106, xq107, xq108, xq109, xq110, xq111, xq112, xq113, xq114, xq115, xq116, xq117, xq118, xq119, xq120, xq121, xq122, xq123, xq124, xq125, xq126, xq127, xq128, xq129, xq130, xq131, xq132, xq133, xq134, xq135, xf136, xf137, xg138, xg139, xq155, xq156, xq157, xq158, xq159, xq160, xq161, xq162, xq163, xq164, xq165, xq166, xq167, xq168, xq169, xq170, xq171, xq172, xq173, xq174, xq175, xq176, xq177, xq178, xq179, xq180, xq181, xq182, xq183, xq184, xq185, xq186, xq187, xq188, xq189, xq190, xq191, xq192, xq193, xq194, xq195, xq196, xq197, xq198, xq199, xq200, xq201, xq202, xq203, xq204, xq205, xq206, xq207, xq208, xq209, xq210, xq211, xf212, xf213, xg214, xg215, nq253, xq254, nq255, xq256, nq257, xq258, nq259, xq260, (va_up (va_up (va_up (va_up (fun _ => none) 0 (some nq253)) 1 (some nq255)) 2 (some nq257)) 3 (some nq259)), xq233, xq234, xq235, xq236, xq237, xq238, xq242, xq243, xq244, xq245, xq248, xq249, xq250, xq251, h_64, h_65, h_66, h_67, h_68, h_69, h_70, h_71, h_72, h_73, h_74, h_75, h_76, h_140, h_141, h_142, h_143, h_144, h_145, h_146, h_147, h_148, h_149, h_150, h_151, h_152, h_216, h_217, h_218, h_219, h_220, h_221, h_222, h_223, h_224, h_225, h_226, h_227, h_228, rfl, rfl, rfl, rfl, h_239, hP9, hD9⟩⟩, hS.F ht⟩) hS.2.2 dX11_init_117
end
