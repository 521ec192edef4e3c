section
theorem bDn {c : rf} (h : ¬ c.1 = 12) (h2 : c.1 < 50) : bD c = false := by
  cases hb : bD c with
  | false => rfl
  | true =>
    exfalso
    unfold bD at hb
    simp at hb
    omega
theorem bDy {c : rf} (h : c.1 = 12 ∨ 50 ≤ c.1) : bD c = true := by unfold bD; simp; omega
theorem mgC_self {S : rf → Nat → Prop} {M M1 : mM} (h : FR S M M1) (hs : ∀ c k, S c k → bD c = false) : mgC M1 M = M1 := by
  refine Prod.ext (funext fun c => funext fun k => ?_) rfl
  show (bif bD c then M.1 c k else M1.1 c k) = _
  cases hb : bD c with
  | false => rfl
  | true => exact (h c k (fun q => by rw [hs c k q] at hb; cases hb)).symm
theorem mgC_same {M : mM} : mgC M M = M := by
  refine Prod.ext (funext fun c => funext fun k => ?_) rfl
  show (bif bD c then M.1 c k else M.1 c k) = _
  cases bD c <;> rfl
theorem mgD_self {S : rf → Nat → Prop} {M M1 : mM} (h : FR S M M1) (hs : ∀ c k, S c k → bD c = true) : (mgD M1 M).1 = M1.1 := by
  refine funext fun c => funext fun k => ?_
  show (bif bD c then M1.1 c k else M.1 c k) = _
  cases hb : bD c with
  | true => rfl
  | false => exact (h c k (fun q => by rw [hs c k q] at hb; cases hb)).symm
theorem SC_X11_thing : ∀ c k, S_c_X11_thing c k → bD c = false := fun c k h => by simp only [S_c_X11_thing, or_false] at h; exact bDn (by omega) (by omega)
theorem SD_X12_thing_ : ∀ c k, S_c_X12_thing_ c k → bD c = true := fun c k h => by simp only [S_c_X12_thing_, or_false] at h; exact bDy (by omega)
theorem SC_X11_thingIs : ∀ c k, S_c_X11_thingIs c k → bD c = false := fun c k h => by simp only [S_c_X11_thingIs, or_false] at h; exact bDn (by omega) (by omega)
theorem SD_X12_thingIs : ∀ c k, S_c_X12_thingIs c k → bD c = true := fun c k h => by simp only [S_c_X12_thingIs, or_false] at h; exact bDy (by omega)
theorem SC_X11_moves : ∀ c k, S_c_X11_moves c k → bD c = false := fun c k h => by simp only [S_c_X11_moves, or_false] at h; exact bDn (by omega) (by omega)
theorem SD_X12_moves : ∀ c k, S_c_X12_moves c k → bD c = true := fun c k h => by simp only [S_c_X12_moves, or_false] at h; exact bDy (by omega)
theorem SC_X11_away : ∀ c k, S_c_X11_away c k → bD c = false := fun c k h => by simp only [S_c_X11_away, or_false] at h; exact bDn (by omega) (by omega)
theorem SD_X12_away : ∀ c k, S_c_X12_away c k → bD c = true := fun c k h => by simp only [S_c_X12_away, or_false] at h; exact bDy (by omega)
theorem SC_X11_kind : ∀ c k, S_c_X11_kind c k → bD c = false := fun c k h => by simp only [S_c_X11_kind, or_false] at h; exact bDn (by omega) (by omega)
theorem SD_X12_kind : ∀ c k, S_c_X12_kind c k → bD c = true := fun c k h => by simp only [S_c_X12_kind, or_false] at h; exact bDy (by omega)
theorem SC_X11_at : ∀ c k, S_c_X11_at c k → bD c = false := fun c k h => by simp only [S_c_X11_at, or_false] at h; exact bDn (by omega) (by omega)
theorem SD_X12_at : ∀ c k, S_c_X12_at c k → bD c = true := fun c k h => by simp only [S_c_X12_at, or_false] at h; exact bDy (by omega)
theorem SC_X11_lays : ∀ c k, S_c_X11_lays c k → bD c = false := fun c k h => by simp only [S_c_X11_lays, or_false] at h; exact bDn (by omega) (by omega)
theorem SD_X12_lays : ∀ c k, S_c_X12_lays c k → bD c = true := fun c k h => by simp only [S_c_X12_lays, or_false] at h; exact bDy (by omega)
theorem SC_X11_air : ∀ c k, S_c_X11_air c k → bD c = false := fun c k h => by simp only [S_c_X11_air, or_false] at h; exact bDn (by omega) (by omega)
theorem SD_X12_air : ∀ c k, S_c_X12_air c k → bD c = true := fun c k h => by simp only [S_c_X12_air, or_false] at h; exact bDy (by omega)
theorem SC_X11_walker : ∀ c k, S_c_X11_walker c k → bD c = false := fun c k h => by simp only [S_c_X11_walker, or_false] at h; exact bDn (by omega) (by omega)
theorem SD_X12_walker : ∀ c k, S_c_X12_walker c k → bD c = true := fun c k h => by simp only [S_c_X12_walker, or_false] at h; exact bDy (by omega)
theorem SC_X11_walkerIs : ∀ c k, S_c_X11_walkerIs c k → bD c = false := fun c k h => by simp only [S_c_X11_walkerIs, or_false] at h; exact bDn (by omega) (by omega)
theorem SD_X12_walkerIs : ∀ c k, S_c_X12_walkerIs c k → bD c = true := fun c k h => by simp only [S_c_X12_walkerIs, or_false] at h; exact bDy (by omega)
theorem SC_X11_as : ∀ c k, S_c_X11_as c k → bD c = false := fun c k h => by simp only [S_c_X11_as, or_false] at h; exact bDn (by omega) (by omega)
theorem SD_X12_as : ∀ c k, S_c_X12_as c k → bD c = true := fun c k h => by simp only [S_c_X12_as, or_false] at h; exact bDy (by omega)
theorem SC_X11_habit : ∀ c k, S_c_X11_habit c k → bD c = false := fun c k h => by simp only [S_c_X11_habit, or_false] at h; exact bDn (by omega) (by omega)
theorem SD_X12_habit : ∀ c k, S_c_X12_habit c k → bD c = true := fun c k h => by simp only [S_c_X12_habit, or_false] at h; exact bDy (by omega)
theorem SC_X11_face : ∀ c k, S_c_X11_face c k → bD c = false := fun c k h => by simp only [S_c_X11_face, or_false] at h; exact bDn (by omega) (by omega)
theorem SD_X12_face : ∀ c k, S_c_X12_face c k → bD c = true := fun c k h => by simp only [S_c_X12_face, or_false] at h; exact bDy (by omega)
theorem SC_X11_goes : ∀ c k, S_c_X11_goes c k → bD c = false := fun c k h => by simp only [S_c_X11_goes, or_false] at h; exact bDn (by omega) (by omega)
theorem SD_X12_goes : ∀ c k, S_c_X12_goes c k → bD c = true := fun c k h => by simp only [S_c_X12_goes, or_false] at h; exact bDy (by omega)
theorem SC_X11_feed : ∀ c k, S_c_X11_feed c k → bD c = false := fun c k h => by simp only [S_c_X11_feed, or_false] at h; exact bDn (by omega) (by omega)
theorem SD_X12_feed : ∀ c k, S_c_X12_feed c k → bD c = true := fun c k h => by simp only [S_c_X12_feed, or_false] at h; exact bDy (by omega)
theorem SC_X11_text : ∀ c k, S_c_X11_text c k → bD c = false := fun c k h => by simp only [S_c_X11_text, or_false] at h; exact bDn (by omega) (by omega)
theorem SD_X12_text_ : ∀ c k, S_c_X12_text_ c k → bD c = true := fun c k h => by simp only [S_c_X12_text_, or_false] at h; exact bDy (by omega)
theorem SC_X11_echo : ∀ c k, S_c_X11_echo c k → bD c = false := fun c k h => by simp only [S_c_X11_echo, or_false] at h; exact bDn (by omega) (by omega)
theorem SD_X12_echo : ∀ c k, S_c_X12_echo c k → bD c = true := fun c k h => by simp only [S_c_X12_echo, or_false] at h; exact bDy (by omega)
theorem SC_X11_click : ∀ c k, S_c_X11_click c k → bD c = false := fun c k h => by simp only [S_c_X11_click, or_false] at h; exact bDn (by omega) (by omega)
theorem SD_X12_click : ∀ c k, S_c_X12_click c k → bD c = true := fun c k h => by simp only [S_c_X12_click, or_false] at h; exact bDy (by omega)
theorem SC_X11_head : ∀ c k, S_c_X11_head c k → bD c = false := fun c k h => by simp only [S_c_X11_head, or_false] at h; exact bDn (by omega) (by omega)
theorem SD_X12_head : ∀ c k, S_c_X12_head c k → bD c = true := fun c k h => by simp only [S_c_X12_head, or_false] at h; exact bDy (by omega)
theorem SC_X11_heads : ∀ c k, S_c_X11_heads c k → bD c = false := fun c k h => by simp only [S_c_X11_heads, or_false] at h; exact bDn (by omega) (by omega)
theorem SD_X12_heads : ∀ c k, S_c_X12_heads c k → bD c = true := fun c k h => by simp only [S_c_X12_heads, or_false] at h; exact bDy (by omega)
theorem SC_X11_alike : ∀ c k, S_c_X11_alike c k → bD c = false := fun c k h => by simp only [S_c_X11_alike, or_false] at h; exact bDn (by omega) (by omega)
theorem SD_X12_alike : ∀ c k, S_c_X12_alike c k → bD c = true := fun c k h => by simp only [S_c_X12_alike, or_false] at h; exact bDy (by omega)
theorem SC_X11_least : ∀ c k, S_c_X11_least c k → bD c = false := fun c k h => by simp only [S_c_X11_least, or_false] at h; exact bDn (by omega) (by omega)
theorem SD_X12_least : ∀ c k, S_c_X12_least c k → bD c = true := fun c k h => by simp only [S_c_X12_least, or_false] at h; exact bDy (by omega)
theorem SC_X11_farthest : ∀ c k, S_c_X11_farthest c k → bD c = false := fun c k h => by simp only [S_c_X11_farthest, or_false] at h; exact bDn (by omega) (by omega)
theorem SD_X12_farthest : ∀ c k, S_c_X12_farthest c k → bD c = true := fun c k h => by simp only [S_c_X12_farthest, or_false] at h; exact bDy (by omega)
theorem SC_X11_spots : ∀ c k, S_c_X11_spots c k → bD c = false := fun c k h => by simp only [S_c_X11_spots, or_false] at h; exact bDn (by omega) (by omega)
theorem SD_X12_spots : ∀ c k, S_c_X12_spots c k → bD c = true := fun c k h => by simp only [S_c_X12_spots, or_false] at h; exact bDy (by omega)
theorem SC_X11_tenths : ∀ c k, S_c_X11_tenths c k → bD c = false := fun c k h => by simp only [S_c_X11_tenths, or_false] at h; exact bDn (by omega) (by omega)
theorem SD_X12_tenths : ∀ c k, S_c_X12_tenths c k → bD c = true := fun c k h => by simp only [S_c_X12_tenths, or_false] at h; exact bDy (by omega)
theorem SC_X11_way : ∀ c k, S_c_X11_way c k → bD c = false := fun c k h => by simp only [S_c_X11_way, or_false] at h; exact bDn (by omega) (by omega)
theorem SD_X12_way : ∀ c k, S_c_X12_way c k → bD c = true := fun c k h => by simp only [S_c_X12_way, or_false] at h; exact bDy (by omega)
theorem SC_X11_safe : ∀ c k, S_c_X11_safe c k → bD c = false := fun c k h => by simp only [S_c_X11_safe, or_false] at h; exact bDn (by omega) (by omega)
theorem SD_X12_safe : ∀ c k, S_c_X12_safe c k → bD c = true := fun c k h => by simp only [S_c_X12_safe, or_false] at h; exact bDy (by omega)
theorem SC_X11_lesson : ∀ c k, S_c_X11_lesson c k → bD c = false := fun c k h => by simp only [S_c_X11_lesson, or_false] at h; exact bDn (by omega) (by omega)
theorem SD_X12_lesson : ∀ c k, S_c_X12_lesson c k → bD c = true := fun c k h => by simp only [S_c_X12_lesson, or_false] at h; exact bDy (by omega)
theorem SC_X11_learn : ∀ c k, S_c_X11_learn c k → bD c = false := fun c k h => by simp only [S_c_X11_learn, or_false] at h; exact bDn (by omega) (by omega)
theorem SD_X12_learn : ∀ c k, S_c_X12_learn c k → bD c = true := fun c k h => by simp only [S_c_X12_learn, or_false] at h; exact bDy (by omega)
theorem SC_X11_posts : ∀ c k, S_c_X11_posts c k → bD c = false := fun c k h => by simp only [S_c_X11_posts, or_false] at h; exact bDn (by omega) (by omega)
theorem SD_X12_posts : ∀ c k, S_c_X12_posts c k → bD c = true := fun c k h => by simp only [S_c_X12_posts, or_false] at h; exact bDy (by omega)
theorem SC_X11_voice : ∀ c k, S_c_X11_voice c k → bD c = false := fun c k h => by simp only [S_c_X11_voice, or_false] at h; exact bDn (by omega) (by omega)
theorem SD_X12_voice : ∀ c k, S_c_X12_voice c k → bD c = true := fun c k h => by simp only [S_c_X12_voice, or_false] at h; exact bDy (by omega)
theorem SC_X11_trace : ∀ c k, S_c_X11_trace c k → bD c = false := fun c k h => by simp only [S_c_X11_trace, or_false] at h; exact bDn (by omega) (by omega)
theorem SD_X12_trace : ∀ c k, S_c_X12_trace c k → bD c = true := fun c k h => by simp only [S_c_X12_trace, or_false] at h; exact bDy (by omega)
theorem SC_X11_sheet : ∀ c k, S_c_X11_sheet c k → bD c = false := fun c k h => by simp only [S_c_X11_sheet, or_false] at h; exact bDn (by omega) (by omega)
theorem SD_X12_sheet : ∀ c k, S_c_X12_sheet c k → bD c = true := fun c k h => by simp only [S_c_X12_sheet, or_false] at h; exact bDy (by omega)
theorem SC_X11_put : ∀ c k, S_c_X11_put c k → bD c = false := fun c k h => by simp only [S_c_X11_put, or_false] at h; exact bDn (by omega) (by omega)
theorem SD_X12_put : ∀ c k, S_c_X12_put c k → bD c = true := fun c k h => by simp only [S_c_X12_put, or_false] at h; exact bDy (by omega)
theorem SC_X11_move : ∀ c k, S_c_X11_move c k → bD c = false := fun c k h => by simp only [S_c_X11_move, or_false] at h; exact bDn (by omega) (by omega)
theorem SD_X12_move : ∀ c k, S_c_X12_move c k → bD c = true := fun c k h => by simp only [S_c_X12_move, or_false] at h; exact bDy (by omega)
theorem SC_X11_image : ∀ c k, S_c_X11_image c k → bD c = false := fun c k h => by simp only [S_c_X11_image, or_false] at h; exact bDn (by omega) (by omega)
theorem SD_X12_image : ∀ c k, S_c_X12_image c k → bD c = true := fun c k h => by simp only [S_c_X12_image, or_false] at h; exact bDy (by omega)
theorem SC_X11_restore : ∀ c k, S_c_X11_restore c k → bD c = false := fun c k h => by simp only [S_c_X11_restore, or_false] at h; exact bDn (by omega) (by omega)
theorem SD_X12_restore : ∀ c k, S_c_X12_restore c k → bD c = true := fun c k h => by simp only [S_c_X12_restore, or_false] at h; exact bDy (by omega)
theorem SC_X11_tell : ∀ c k, S_c_X11_tell c k → bD c = false := fun c k h => by simp only [S_c_X11_tell, or_false] at h; exact bDn (by omega) (by omega)
theorem SD_X12_tell : ∀ c k, S_c_X12_tell c k → bD c = true := fun c k h => by simp only [S_c_X12_tell, or_false] at h; exact bDy (by omega)
theorem SC_X11_check : ∀ c k, S_c_X11_check c k → bD c = false := fun c k h => by simp only [S_c_X11_check, or_false] at h; exact bDn (by omega) (by omega)
theorem SD_X12_check : ∀ c k, S_c_X12_check c k → bD c = true := fun c k h => by simp only [S_c_X12_check, or_false] at h; exact bDy (by omega)
theorem SC_X11_count : ∀ c k, S_c_X11_count c k → bD c = false := fun c k h => by simp only [S_c_X11_count, or_false] at h; exact bDn (by omega) (by omega)
theorem SD_X12_count : ∀ c k, S_c_X12_count c k → bD c = true := fun c k h => by simp only [S_c_X12_count, or_false] at h; exact bDy (by omega)
theorem SC_X11_told : ∀ c k, S_c_X11_told c k → bD c = false := fun c k h => by simp only [S_c_X11_told, or_false] at h; exact bDn (by omega) (by omega)
theorem SD_X12_told : ∀ c k, S_c_X12_told c k → bD c = true := fun c k h => by simp only [S_c_X12_told, or_false] at h; exact bDy (by omega)
end
section
/-! words of the tables that are used, by their places; decode rows; fields -/
set_option maxRecDepth 20000 in
theorem m_487 : Cond.methodLink RL 13 yX11_thing ∈ BASE := bmT2 169 rfl rfl
set_option maxRecDepth 20000 in
theorem m_488 : Cond.instanceMethod yX11_thing ∈ BASE := bmT2 170 rfl rfl
set_option maxRecDepth 20000 in
theorem m_489 : Cond.selects yX11_thing.cls yX11_thing yX11_thing ∈ BASE := bmT2 171 rfl rfl
set_option maxRecDepth 20000 in
theorem m_490 : Cond.code yX11_thing cX11_thing 3 (some .int) ∈ BASE := bmT2 172 rfl rfl
set_option maxRecDepth 20000 in
theorem m_522 : Cond.methodLink RL 18 yX11_thingIs ∈ BASE := bmT2 204 rfl rfl
set_option maxRecDepth 20000 in
theorem m_523 : Cond.instanceMethod yX11_thingIs ∈ BASE := bmT2 205 rfl rfl
set_option maxRecDepth 20000 in
theorem m_524 : Cond.selects yX11_thingIs.cls yX11_thingIs yX11_thingIs ∈ BASE := bmT2 206 rfl rfl
set_option maxRecDepth 20000 in
theorem m_525 : Cond.code yX11_thingIs cX11_thingIs 3 (some .int) ∈ BASE := bmT2 207 rfl rfl
set_option maxRecDepth 20000 in
theorem m_535 : Cond.methodLink RL 22 yX11_moves ∈ BASE := bmT2 217 rfl rfl
set_option maxRecDepth 20000 in
theorem m_536 : Cond.instanceMethod yX11_moves ∈ BASE := bmT2 218 rfl rfl
set_option maxRecDepth 20000 in
theorem m_537 : Cond.selects yX11_moves.cls yX11_moves yX11_moves ∈ BASE := bmT2 219 rfl rfl
set_option maxRecDepth 20000 in
theorem m_538 : Cond.code yX11_moves cX11_moves 5 (some .int) ∈ BASE := bmT2 220 rfl rfl
set_option maxRecDepth 20000 in
theorem m_542 : Cond.methodLink RL 27 yX11_away ∈ BASE := bmT2 224 rfl rfl
set_option maxRecDepth 20000 in
theorem m_543 : Cond.instanceMethod yX11_away ∈ BASE := bmT2 225 rfl rfl
set_option maxRecDepth 20000 in
theorem m_544 : Cond.selects yX11_away.cls yX11_away yX11_away ∈ BASE := bmT2 226 rfl rfl
set_option maxRecDepth 20000 in
theorem m_545 : Cond.code yX11_away cX11_away 2 (some .int) ∈ BASE := bmT2 227 rfl rfl
set_option maxRecDepth 20000 in
theorem m_550 : Cond.methodLink RL 32 yX11_kind ∈ BASE := bmT2 232 rfl rfl
set_option maxRecDepth 20000 in
theorem m_551 : Cond.instanceMethod yX11_kind ∈ BASE := bmT2 233 rfl rfl
set_option maxRecDepth 20000 in
theorem m_552 : Cond.selects yX11_kind.cls yX11_kind yX11_kind ∈ BASE := bmT2 234 rfl rfl
set_option maxRecDepth 20000 in
theorem m_553 : Cond.code yX11_kind cX11_kind 4 (some .int) ∈ BASE := bmT2 235 rfl rfl
set_option maxRecDepth 20000 in
theorem m_558 : Cond.methodLink RL 36 yX11_at ∈ BASE := bmT3 0 rfl rfl
set_option maxRecDepth 20000 in
theorem m_559 : Cond.instanceMethod yX11_at ∈ BASE := bmT3 1 rfl rfl
set_option maxRecDepth 20000 in
theorem m_560 : Cond.selects yX11_at.cls yX11_at yX11_at ∈ BASE := bmT3 2 rfl rfl
set_option maxRecDepth 20000 in
theorem m_561 : Cond.code yX11_at cX11_at 2 (some .int) ∈ BASE := bmT3 3 rfl rfl
set_option maxRecDepth 20000 in
theorem m_562 : Cond.methodLink RL 40 yX11_lays ∈ BASE := bmT3 4 rfl rfl
set_option maxRecDepth 20000 in
theorem m_563 : Cond.instanceMethod yX11_lays ∈ BASE := bmT3 5 rfl rfl
set_option maxRecDepth 20000 in
theorem m_564 : Cond.selects yX11_lays.cls yX11_lays yX11_lays ∈ BASE := bmT3 6 rfl rfl
set_option maxRecDepth 20000 in
theorem m_565 : Cond.code yX11_lays cX11_lays 8 (some .int) ∈ BASE := bmT3 7 rfl rfl
set_option maxRecDepth 20000 in
theorem m_581 : Cond.methodLink RL 44 yX11_air ∈ BASE := bmT3 23 rfl rfl
set_option maxRecDepth 20000 in
theorem m_582 : Cond.instanceMethod yX11_air ∈ BASE := bmT3 24 rfl rfl
set_option maxRecDepth 20000 in
theorem m_583 : Cond.selects yX11_air.cls yX11_air yX11_air ∈ BASE := bmT3 25 rfl rfl
set_option maxRecDepth 20000 in
theorem m_584 : Cond.code yX11_air cX11_air 3 (some .int) ∈ BASE := bmT3 26 rfl rfl
set_option maxRecDepth 20000 in
theorem m_589 : Cond.methodLink RL 48 yX11_walker ∈ BASE := bmT3 31 rfl rfl
set_option maxRecDepth 20000 in
theorem m_590 : Cond.instanceMethod yX11_walker ∈ BASE := bmT3 32 rfl rfl
set_option maxRecDepth 20000 in
theorem m_591 : Cond.selects yX11_walker.cls yX11_walker yX11_walker ∈ BASE := bmT3 33 rfl rfl
set_option maxRecDepth 20000 in
theorem m_592 : Cond.code yX11_walker cX11_walker 4 (some .int) ∈ BASE := bmT3 34 rfl rfl
set_option maxRecDepth 20000 in
theorem m_605 : Cond.methodLink RL 52 yX11_walkerIs ∈ BASE := bmT3 47 rfl rfl
set_option maxRecDepth 20000 in
theorem m_606 : Cond.instanceMethod yX11_walkerIs ∈ BASE := bmT3 48 rfl rfl
set_option maxRecDepth 20000 in
theorem m_607 : Cond.selects yX11_walkerIs.cls yX11_walkerIs yX11_walkerIs ∈ BASE := bmT3 49 rfl rfl
set_option maxRecDepth 20000 in
theorem m_608 : Cond.code yX11_walkerIs cX11_walkerIs 3 (some .int) ∈ BASE := bmT3 50 rfl rfl
set_option maxRecDepth 20000 in
theorem m_635 : Cond.methodLink RL 56 yX11_as ∈ BASE := bmT3 77 rfl rfl
set_option maxRecDepth 20000 in
theorem m_636 : Cond.instanceMethod yX11_as ∈ BASE := bmT3 78 rfl rfl
set_option maxRecDepth 20000 in
theorem m_637 : Cond.selects yX11_as.cls yX11_as yX11_as ∈ BASE := bmT3 79 rfl rfl
set_option maxRecDepth 20000 in
theorem m_638 : Cond.code yX11_as cX11_as 3 (some .int) ∈ BASE := bmT3 80 rfl rfl
set_option maxRecDepth 20000 in
theorem m_649 : Cond.methodLink RL 60 yX11_habit ∈ BASE := bmT3 91 rfl rfl
set_option maxRecDepth 20000 in
theorem m_650 : Cond.instanceMethod yX11_habit ∈ BASE := bmT3 92 rfl rfl
set_option maxRecDepth 20000 in
theorem m_651 : Cond.selects yX11_habit.cls yX11_habit yX11_habit ∈ BASE := bmT3 93 rfl rfl
set_option maxRecDepth 20000 in
theorem m_652 : Cond.code yX11_habit cX11_habit 6 (some .int) ∈ BASE := bmT3 94 rfl rfl
set_option maxRecDepth 20000 in
theorem m_657 : Cond.methodLink RL 65 yX11_face ∈ BASE := bmT3 99 rfl rfl
set_option maxRecDepth 20000 in
theorem m_658 : Cond.instanceMethod yX11_face ∈ BASE := bmT3 100 rfl rfl
set_option maxRecDepth 20000 in
theorem m_659 : Cond.selects yX11_face.cls yX11_face yX11_face ∈ BASE := bmT3 101 rfl rfl
set_option maxRecDepth 20000 in
theorem m_660 : Cond.code yX11_face cX11_face 4 (some .int) ∈ BASE := bmT3 102 rfl rfl
set_option maxRecDepth 20000 in
theorem m_661 : Cond.methodLink RL 69 yX11_goes ∈ BASE := bmT3 103 rfl rfl
set_option maxRecDepth 20000 in
theorem m_662 : Cond.instanceMethod yX11_goes ∈ BASE := bmT3 104 rfl rfl
set_option maxRecDepth 20000 in
theorem m_663 : Cond.selects yX11_goes.cls yX11_goes yX11_goes ∈ BASE := bmT3 105 rfl rfl
set_option maxRecDepth 20000 in
theorem m_664 : Cond.code yX11_goes cX11_goes 4 (some .int) ∈ BASE := bmT3 106 rfl rfl
set_option maxRecDepth 20000 in
theorem m_665 : Cond.methodLink RL 76 yX11_feed ∈ BASE := bmT3 107 rfl rfl
set_option maxRecDepth 20000 in
theorem m_666 : Cond.instanceMethod yX11_feed ∈ BASE := bmT3 108 rfl rfl
set_option maxRecDepth 20000 in
theorem m_667 : Cond.selects yX11_feed.cls yX11_feed yX11_feed ∈ BASE := bmT3 109 rfl rfl
set_option maxRecDepth 20000 in
theorem m_668 : Cond.code yX11_feed cX11_feed 5 (some .int) ∈ BASE := bmT3 110 rfl rfl
set_option maxRecDepth 20000 in
theorem m_677 : Cond.methodLink RL 81 yX11_text ∈ BASE := bmT3 119 rfl rfl
set_option maxRecDepth 20000 in
theorem m_678 : Cond.instanceMethod yX11_text ∈ BASE := bmT3 120 rfl rfl
set_option maxRecDepth 20000 in
theorem m_679 : Cond.selects yX11_text.cls yX11_text yX11_text ∈ BASE := bmT3 121 rfl rfl
set_option maxRecDepth 20000 in
theorem m_680 : Cond.code yX11_text cX11_text 3 (some .int) ∈ BASE := bmT3 122 rfl rfl
set_option maxRecDepth 20000 in
theorem m_835 : Cond.methodLink RL 85 yX11_echo ∈ BASE := bmT4 37 rfl rfl
set_option maxRecDepth 20000 in
theorem m_836 : Cond.instanceMethod yX11_echo ∈ BASE := bmT4 38 rfl rfl
set_option maxRecDepth 20000 in
theorem m_837 : Cond.selects yX11_echo.cls yX11_echo yX11_echo ∈ BASE := bmT4 39 rfl rfl
set_option maxRecDepth 20000 in
theorem m_838 : Cond.code yX11_echo cX11_echo 5 (some .int) ∈ BASE := bmT4 40 rfl rfl
set_option maxRecDepth 20000 in
theorem m_892 : Cond.methodLink RL 89 yX11_click ∈ BASE := bmT4 94 rfl rfl
set_option maxRecDepth 20000 in
theorem m_893 : Cond.instanceMethod yX11_click ∈ BASE := bmT4 95 rfl rfl
set_option maxRecDepth 20000 in
theorem m_894 : Cond.selects yX11_click.cls yX11_click yX11_click ∈ BASE := bmT4 96 rfl rfl
set_option maxRecDepth 20000 in
theorem m_895 : Cond.code yX11_click cX11_click 2 (some .int) ∈ BASE := bmT4 97 rfl rfl
set_option maxRecDepth 20000 in
theorem m_925 : Cond.methodLink RL 93 yX11_head ∈ BASE := bmT4 127 rfl rfl
set_option maxRecDepth 20000 in
theorem m_926 : Cond.instanceMethod yX11_head ∈ BASE := bmT4 128 rfl rfl
set_option maxRecDepth 20000 in
theorem m_927 : Cond.selects yX11_head.cls yX11_head yX11_head ∈ BASE := bmT4 129 rfl rfl
set_option maxRecDepth 20000 in
theorem m_928 : Cond.code yX11_head cX11_head 5 (some .int) ∈ BASE := bmT4 130 rfl rfl
set_option maxRecDepth 20000 in
theorem m_933 : Cond.methodLink RL 97 yX11_heads ∈ BASE := bmT4 135 rfl rfl
set_option maxRecDepth 20000 in
theorem m_934 : Cond.instanceMethod yX11_heads ∈ BASE := bmT4 136 rfl rfl
set_option maxRecDepth 20000 in
theorem m_935 : Cond.selects yX11_heads.cls yX11_heads yX11_heads ∈ BASE := bmT4 137 rfl rfl
set_option maxRecDepth 20000 in
theorem m_936 : Cond.code yX11_heads cX11_heads 3 (some .int) ∈ BASE := bmT4 138 rfl rfl
set_option maxRecDepth 20000 in
theorem m_947 : Cond.methodLink RL 101 yX11_alike ∈ BASE := bmT4 149 rfl rfl
set_option maxRecDepth 20000 in
theorem m_948 : Cond.instanceMethod yX11_alike ∈ BASE := bmT4 150 rfl rfl
set_option maxRecDepth 20000 in
theorem m_949 : Cond.selects yX11_alike.cls yX11_alike yX11_alike ∈ BASE := bmT4 151 rfl rfl
set_option maxRecDepth 20000 in
theorem m_950 : Cond.code yX11_alike cX11_alike 7 (some .int) ∈ BASE := bmT4 152 rfl rfl
set_option maxRecDepth 20000 in
theorem m_957 : Cond.methodLink RL 106 yX11_least ∈ BASE := bmT4 159 rfl rfl
set_option maxRecDepth 20000 in
theorem m_958 : Cond.instanceMethod yX11_least ∈ BASE := bmT4 160 rfl rfl
set_option maxRecDepth 20000 in
theorem m_959 : Cond.selects yX11_least.cls yX11_least yX11_least ∈ BASE := bmT4 161 rfl rfl
set_option maxRecDepth 20000 in
theorem m_960 : Cond.code yX11_least cX11_least 7 (some .int) ∈ BASE := bmT4 162 rfl rfl
set_option maxRecDepth 20000 in
theorem m_969 : Cond.methodLink RL 110 yX11_farthest ∈ BASE := bmT4 171 rfl rfl
set_option maxRecDepth 20000 in
theorem m_970 : Cond.instanceMethod yX11_farthest ∈ BASE := bmT4 172 rfl rfl
set_option maxRecDepth 20000 in
theorem m_971 : Cond.selects yX11_farthest.cls yX11_farthest yX11_farthest ∈ BASE := bmT4 173 rfl rfl
set_option maxRecDepth 20000 in
theorem m_972 : Cond.code yX11_farthest cX11_farthest 6 (some .int) ∈ BASE := bmT4 174 rfl rfl
set_option maxRecDepth 20000 in
theorem m_974 : Cond.methodLink RL 114 yX11_spots ∈ BASE := bmT4 176 rfl rfl
set_option maxRecDepth 20000 in
theorem m_975 : Cond.instanceMethod yX11_spots ∈ BASE := bmT4 177 rfl rfl
set_option maxRecDepth 20000 in
theorem m_976 : Cond.selects yX11_spots.cls yX11_spots yX11_spots ∈ BASE := bmT4 178 rfl rfl
set_option maxRecDepth 20000 in
theorem m_977 : Cond.code yX11_spots cX11_spots 5 (some .int) ∈ BASE := bmT4 179 rfl rfl
set_option maxRecDepth 20000 in
theorem m_1021 : Cond.methodLink RL 118 yX11_tenths ∈ BASE := bmT4 223 rfl rfl
set_option maxRecDepth 20000 in
theorem m_1022 : Cond.instanceMethod yX11_tenths ∈ BASE := bmT4 224 rfl rfl
set_option maxRecDepth 20000 in
theorem m_1023 : Cond.selects yX11_tenths.cls yX11_tenths yX11_tenths ∈ BASE := bmT4 225 rfl rfl
set_option maxRecDepth 20000 in
theorem m_1024 : Cond.code yX11_tenths cX11_tenths 3 (some .int) ∈ BASE := bmT4 226 rfl rfl
set_option maxRecDepth 20000 in
theorem m_1067 : Cond.methodLink RL 122 yX11_way ∈ BASE := bmT5 29 rfl rfl
set_option maxRecDepth 20000 in
theorem m_1068 : Cond.instanceMethod yX11_way ∈ BASE := bmT5 30 rfl rfl
set_option maxRecDepth 20000 in
theorem m_1069 : Cond.selects yX11_way.cls yX11_way yX11_way ∈ BASE := bmT5 31 rfl rfl
set_option maxRecDepth 20000 in
theorem m_1070 : Cond.code yX11_way cX11_way 6 (some .int) ∈ BASE := bmT5 32 rfl rfl
set_option maxRecDepth 20000 in
theorem m_1098 : Cond.methodLink RL 126 yX11_safe ∈ BASE := bmT5 60 rfl rfl
set_option maxRecDepth 20000 in
theorem m_1099 : Cond.instanceMethod yX11_safe ∈ BASE := bmT5 61 rfl rfl
set_option maxRecDepth 20000 in
theorem m_1100 : Cond.selects yX11_safe.cls yX11_safe yX11_safe ∈ BASE := bmT5 62 rfl rfl
set_option maxRecDepth 20000 in
theorem m_1101 : Cond.code yX11_safe cX11_safe 4 (some .int) ∈ BASE := bmT5 63 rfl rfl
set_option maxRecDepth 20000 in
theorem m_1110 : Cond.methodLink RL 130 yX11_lesson ∈ BASE := bmT5 72 rfl rfl
set_option maxRecDepth 20000 in
theorem m_1111 : Cond.instanceMethod yX11_lesson ∈ BASE := bmT5 73 rfl rfl
set_option maxRecDepth 20000 in
theorem m_1112 : Cond.selects yX11_lesson.cls yX11_lesson yX11_lesson ∈ BASE := bmT5 74 rfl rfl
set_option maxRecDepth 20000 in
theorem m_1113 : Cond.code yX11_lesson cX11_lesson 4 (some .int) ∈ BASE := bmT5 75 rfl rfl
set_option maxRecDepth 20000 in
theorem m_1125 : Cond.methodLink RL 134 yX11_learn ∈ BASE := bmT5 87 rfl rfl
set_option maxRecDepth 20000 in
theorem m_1126 : Cond.instanceMethod yX11_learn ∈ BASE := bmT5 88 rfl rfl
set_option maxRecDepth 20000 in
theorem m_1127 : Cond.selects yX11_learn.cls yX11_learn yX11_learn ∈ BASE := bmT5 89 rfl rfl
set_option maxRecDepth 20000 in
theorem m_1128 : Cond.code yX11_learn cX11_learn 5 (some .int) ∈ BASE := bmT5 90 rfl rfl
set_option maxRecDepth 20000 in
theorem m_1155 : Cond.methodLink RL 138 yX11_posts ∈ BASE := bmT5 117 rfl rfl
set_option maxRecDepth 20000 in
theorem m_1156 : Cond.instanceMethod yX11_posts ∈ BASE := bmT5 118 rfl rfl
set_option maxRecDepth 20000 in
theorem m_1157 : Cond.selects yX11_posts.cls yX11_posts yX11_posts ∈ BASE := bmT5 119 rfl rfl
set_option maxRecDepth 20000 in
theorem m_1158 : Cond.code yX11_posts cX11_posts 5 (some .int) ∈ BASE := bmT5 120 rfl rfl
set_option maxRecDepth 20000 in
theorem m_1176 : Cond.methodLink RL 142 yX11_voice ∈ BASE := bmT5 138 rfl rfl
set_option maxRecDepth 20000 in
theorem m_1177 : Cond.instanceMethod yX11_voice ∈ BASE := bmT5 139 rfl rfl
set_option maxRecDepth 20000 in
theorem m_1178 : Cond.selects yX11_voice.cls yX11_voice yX11_voice ∈ BASE := bmT5 140 rfl rfl
set_option maxRecDepth 20000 in
theorem m_1179 : Cond.code yX11_voice cX11_voice 5 (some .int) ∈ BASE := bmT5 141 rfl rfl
set_option maxRecDepth 20000 in
theorem m_1210 : Cond.methodLink RL 146 yX11_trace ∈ BASE := bmT5 172 rfl rfl
set_option maxRecDepth 20000 in
theorem m_1211 : Cond.instanceMethod yX11_trace ∈ BASE := bmT5 173 rfl rfl
set_option maxRecDepth 20000 in
theorem m_1212 : Cond.selects yX11_trace.cls yX11_trace yX11_trace ∈ BASE := bmT5 174 rfl rfl
set_option maxRecDepth 20000 in
theorem m_1213 : Cond.code yX11_trace cX11_trace 2 (some .int) ∈ BASE := bmT5 175 rfl rfl
set_option maxRecDepth 20000 in
theorem m_1218 : Cond.methodLink RL 150 yX11_sheet ∈ BASE := bmT5 180 rfl rfl
set_option maxRecDepth 20000 in
theorem m_1219 : Cond.instanceMethod yX11_sheet ∈ BASE := bmT5 181 rfl rfl
set_option maxRecDepth 20000 in
theorem m_1220 : Cond.selects yX11_sheet.cls yX11_sheet yX11_sheet ∈ BASE := bmT5 182 rfl rfl
set_option maxRecDepth 20000 in
theorem m_1221 : Cond.code yX11_sheet cX11_sheet 4 (some .int) ∈ BASE := bmT5 183 rfl rfl
set_option maxRecDepth 20000 in
theorem m_1232 : Cond.methodLink RL 154 yX11_put ∈ BASE := bmT5 194 rfl rfl
set_option maxRecDepth 20000 in
theorem m_1233 : Cond.instanceMethod yX11_put ∈ BASE := bmT5 195 rfl rfl
set_option maxRecDepth 20000 in
theorem m_1234 : Cond.selects yX11_put.cls yX11_put yX11_put ∈ BASE := bmT5 196 rfl rfl
set_option maxRecDepth 20000 in
theorem m_1235 : Cond.code yX11_put cX11_put 4 (some .int) ∈ BASE := bmT5 197 rfl rfl
set_option maxRecDepth 20000 in
theorem m_1241 : Cond.methodLink RL 158 yX11_move ∈ BASE := bmT5 203 rfl rfl
set_option maxRecDepth 20000 in
theorem m_1242 : Cond.instanceMethod yX11_move ∈ BASE := bmT5 204 rfl rfl
set_option maxRecDepth 20000 in
theorem m_1243 : Cond.selects yX11_move.cls yX11_move yX11_move ∈ BASE := bmT5 205 rfl rfl
set_option maxRecDepth 20000 in
theorem m_1244 : Cond.code yX11_move cX11_move 8 (some .int) ∈ BASE := bmT5 206 rfl rfl
set_option maxRecDepth 20000 in
theorem m_1250 : Cond.methodLink RL 162 yX11_image ∈ BASE := bmT5 212 rfl rfl
set_option maxRecDepth 20000 in
theorem m_1251 : Cond.instanceMethod yX11_image ∈ BASE := bmT5 213 rfl rfl
set_option maxRecDepth 20000 in
theorem m_1252 : Cond.selects yX11_image.cls yX11_image yX11_image ∈ BASE := bmT5 214 rfl rfl
set_option maxRecDepth 20000 in
theorem m_1253 : Cond.code yX11_image cX11_image 1 (some .int) ∈ BASE := bmT5 215 rfl rfl
set_option maxRecDepth 20000 in
theorem m_1280 : Cond.methodLink RL 167 yX11_restore ∈ BASE := bmT6 2 rfl rfl
set_option maxRecDepth 20000 in
theorem m_1281 : Cond.instanceMethod yX11_restore ∈ BASE := bmT6 3 rfl rfl
set_option maxRecDepth 20000 in
theorem m_1282 : Cond.selects yX11_restore.cls yX11_restore yX11_restore ∈ BASE := bmT6 4 rfl rfl
set_option maxRecDepth 20000 in
theorem m_1283 : Cond.code yX11_restore cX11_restore 1 (some .int) ∈ BASE := bmT6 5 rfl rfl
set_option maxRecDepth 20000 in
theorem m_1284 : Cond.methodLink RL 171 yX11_tell ∈ BASE := bmT6 6 rfl rfl
set_option maxRecDepth 20000 in
theorem m_1285 : Cond.instanceMethod yX11_tell ∈ BASE := bmT6 7 rfl rfl
set_option maxRecDepth 20000 in
theorem m_1286 : Cond.selects yX11_tell.cls yX11_tell yX11_tell ∈ BASE := bmT6 8 rfl rfl
set_option maxRecDepth 20000 in
theorem m_1287 : Cond.code yX11_tell cX11_tell 2 (some .int) ∈ BASE := bmT6 9 rfl rfl
set_option maxRecDepth 20000 in
theorem m_1288 : Cond.methodLink RL 175 yX11_check ∈ BASE := bmT6 10 rfl rfl
set_option maxRecDepth 20000 in
theorem m_1289 : Cond.instanceMethod yX11_check ∈ BASE := bmT6 11 rfl rfl
set_option maxRecDepth 20000 in
theorem m_1290 : Cond.selects yX11_check.cls yX11_check yX11_check ∈ BASE := bmT6 12 rfl rfl
set_option maxRecDepth 20000 in
theorem m_1291 : Cond.code yX11_check cX11_check 3 (some .int) ∈ BASE := bmT6 13 rfl rfl
set_option maxRecDepth 20000 in
theorem m_1292 : Cond.methodLink RL 179 yX11_count ∈ BASE := bmT6 14 rfl rfl
set_option maxRecDepth 20000 in
theorem m_1293 : Cond.instanceMethod yX11_count ∈ BASE := bmT6 15 rfl rfl
set_option maxRecDepth 20000 in
theorem m_1294 : Cond.selects yX11_count.cls yX11_count yX11_count ∈ BASE := bmT6 16 rfl rfl
set_option maxRecDepth 20000 in
theorem m_1295 : Cond.code yX11_count cX11_count 2 (some .int) ∈ BASE := bmT6 17 rfl rfl
set_option maxRecDepth 20000 in
theorem m_1308 : Cond.methodLink RL 183 yX11_told ∈ BASE := bmT6 30 rfl rfl
set_option maxRecDepth 20000 in
theorem m_1309 : Cond.instanceMethod yX11_told ∈ BASE := bmT6 31 rfl rfl
set_option maxRecDepth 20000 in
theorem m_1310 : Cond.selects yX11_told.cls yX11_told yX11_told ∈ BASE := bmT6 32 rfl rfl
set_option maxRecDepth 20000 in
theorem m_1311 : Cond.code yX11_told cX11_told 2 (some .int) ∈ BASE := bmT6 33 rfl rfl
set_option maxRecDepth 20000 in
theorem m_1423 : Cond.methodLink RL 17 yX12_thing_ ∈ BASE := bmT6 145 rfl rfl
set_option maxRecDepth 20000 in
theorem m_1424 : Cond.instanceMethod yX12_thing_ ∈ BASE := bmT6 146 rfl rfl
set_option maxRecDepth 20000 in
theorem m_1425 : Cond.selects yX12_thing_.cls yX12_thing_ yX12_thing_ ∈ BASE := bmT6 147 rfl rfl
set_option maxRecDepth 20000 in
theorem m_1426 : Cond.code yX12_thing_ cX12_thing_ 3 (some .int) ∈ BASE := bmT6 148 rfl rfl
set_option maxRecDepth 20000 in
theorem m_1461 : Cond.methodLink RL 21 yX12_thingIs ∈ BASE := bmT6 183 rfl rfl
set_option maxRecDepth 20000 in
theorem m_1462 : Cond.instanceMethod yX12_thingIs ∈ BASE := bmT6 184 rfl rfl
set_option maxRecDepth 20000 in
theorem m_1463 : Cond.selects yX12_thingIs.cls yX12_thingIs yX12_thingIs ∈ BASE := bmT6 185 rfl rfl
set_option maxRecDepth 20000 in
theorem m_1464 : Cond.code yX12_thingIs cX12_thingIs 3 (some .int) ∈ BASE := bmT6 186 rfl rfl
set_option maxRecDepth 20000 in
theorem m_1469 : Cond.methodLink RL 26 yX12_moves ∈ BASE := bmT6 191 rfl rfl
set_option maxRecDepth 20000 in
theorem m_1470 : Cond.instanceMethod yX12_moves ∈ BASE := bmT6 192 rfl rfl
set_option maxRecDepth 20000 in
theorem m_1471 : Cond.selects yX12_moves.cls yX12_moves yX12_moves ∈ BASE := bmT6 193 rfl rfl
set_option maxRecDepth 20000 in
theorem m_1472 : Cond.code yX12_moves cX12_moves 4 (some .int) ∈ BASE := bmT6 194 rfl rfl
set_option maxRecDepth 20000 in
theorem m_1477 : Cond.methodLink RL 31 yX12_away ∈ BASE := bmT6 199 rfl rfl
set_option maxRecDepth 20000 in
theorem m_1478 : Cond.instanceMethod yX12_away ∈ BASE := bmT6 200 rfl rfl
set_option maxRecDepth 20000 in
theorem m_1479 : Cond.selects yX12_away.cls yX12_away yX12_away ∈ BASE := bmT6 201 rfl rfl
set_option maxRecDepth 20000 in
theorem m_1480 : Cond.code yX12_away cX12_away 2 (some .int) ∈ BASE := bmT6 202 rfl rfl
set_option maxRecDepth 20000 in
theorem m_1485 : Cond.methodLink RL 35 yX12_kind ∈ BASE := bmT6 207 rfl rfl
set_option maxRecDepth 20000 in
theorem m_1486 : Cond.instanceMethod yX12_kind ∈ BASE := bmT6 208 rfl rfl
set_option maxRecDepth 20000 in
theorem m_1487 : Cond.selects yX12_kind.cls yX12_kind yX12_kind ∈ BASE := bmT6 209 rfl rfl
set_option maxRecDepth 20000 in
theorem m_1488 : Cond.code yX12_kind cX12_kind 4 (some .int) ∈ BASE := bmT6 210 rfl rfl
set_option maxRecDepth 20000 in
theorem m_1489 : Cond.methodLink RL 39 yX12_at ∈ BASE := bmT6 211 rfl rfl
set_option maxRecDepth 20000 in
theorem m_1490 : Cond.instanceMethod yX12_at ∈ BASE := bmT6 212 rfl rfl
set_option maxRecDepth 20000 in
theorem m_1491 : Cond.selects yX12_at.cls yX12_at yX12_at ∈ BASE := bmT6 213 rfl rfl
set_option maxRecDepth 20000 in
theorem m_1492 : Cond.code yX12_at cX12_at 2 (some .int) ∈ BASE := bmT6 214 rfl rfl
set_option maxRecDepth 20000 in
theorem m_1493 : Cond.methodLink RL 43 yX12_lays ∈ BASE := bmT6 215 rfl rfl
set_option maxRecDepth 20000 in
theorem m_1494 : Cond.instanceMethod yX12_lays ∈ BASE := bmT6 216 rfl rfl
set_option maxRecDepth 20000 in
theorem m_1495 : Cond.selects yX12_lays.cls yX12_lays yX12_lays ∈ BASE := bmT6 217 rfl rfl
set_option maxRecDepth 20000 in
theorem m_1496 : Cond.code yX12_lays cX12_lays 6 (some .int) ∈ BASE := bmT6 218 rfl rfl
set_option maxRecDepth 20000 in
theorem m_1501 : Cond.methodLink RL 47 yX12_air ∈ BASE := bmT6 223 rfl rfl
set_option maxRecDepth 20000 in
theorem m_1502 : Cond.instanceMethod yX12_air ∈ BASE := bmT6 224 rfl rfl
set_option maxRecDepth 20000 in
theorem m_1503 : Cond.selects yX12_air.cls yX12_air yX12_air ∈ BASE := bmT6 225 rfl rfl
set_option maxRecDepth 20000 in
theorem m_1504 : Cond.code yX12_air cX12_air 4 (some .int) ∈ BASE := bmT6 226 rfl rfl
set_option maxRecDepth 20000 in
theorem m_1505 : Cond.methodLink RL 51 yX12_walker ∈ BASE := bmT6 227 rfl rfl
set_option maxRecDepth 20000 in
theorem m_1506 : Cond.instanceMethod yX12_walker ∈ BASE := bmT6 228 rfl rfl
set_option maxRecDepth 20000 in
theorem m_1507 : Cond.selects yX12_walker.cls yX12_walker yX12_walker ∈ BASE := bmT6 229 rfl rfl
set_option maxRecDepth 20000 in
theorem m_1508 : Cond.code yX12_walker cX12_walker 6 (some .int) ∈ BASE := bmT6 230 rfl rfl
set_option maxRecDepth 20000 in
theorem m_1509 : Cond.methodLink RL 55 yX12_walkerIs ∈ BASE := bmT6 231 rfl rfl
set_option maxRecDepth 20000 in
theorem m_1510 : Cond.instanceMethod yX12_walkerIs ∈ BASE := bmT6 232 rfl rfl
set_option maxRecDepth 20000 in
theorem m_1511 : Cond.selects yX12_walkerIs.cls yX12_walkerIs yX12_walkerIs ∈ BASE := bmT6 233 rfl rfl
set_option maxRecDepth 20000 in
theorem m_1512 : Cond.code yX12_walkerIs cX12_walkerIs 3 (some .int) ∈ BASE := bmT6 234 rfl rfl
set_option maxRecDepth 20000 in
theorem m_1528 : Cond.methodLink RL 59 yX12_as ∈ BASE := bmT7 10 rfl rfl
set_option maxRecDepth 20000 in
theorem m_1529 : Cond.instanceMethod yX12_as ∈ BASE := bmT7 11 rfl rfl
set_option maxRecDepth 20000 in
theorem m_1530 : Cond.selects yX12_as.cls yX12_as yX12_as ∈ BASE := bmT7 12 rfl rfl
set_option maxRecDepth 20000 in
theorem m_1531 : Cond.code yX12_as cX12_as 3 (some .int) ∈ BASE := bmT7 13 rfl rfl
set_option maxRecDepth 20000 in
theorem m_1538 : Cond.methodLink RL 64 yX12_habit ∈ BASE := bmT7 20 rfl rfl
set_option maxRecDepth 20000 in
theorem m_1539 : Cond.instanceMethod yX12_habit ∈ BASE := bmT7 21 rfl rfl
set_option maxRecDepth 20000 in
theorem m_1540 : Cond.selects yX12_habit.cls yX12_habit yX12_habit ∈ BASE := bmT7 22 rfl rfl
set_option maxRecDepth 20000 in
theorem m_1541 : Cond.code yX12_habit cX12_habit 5 (some .int) ∈ BASE := bmT7 23 rfl rfl
set_option maxRecDepth 20000 in
theorem m_1542 : Cond.methodLink RL 68 yX12_face ∈ BASE := bmT7 24 rfl rfl
set_option maxRecDepth 20000 in
theorem m_1543 : Cond.instanceMethod yX12_face ∈ BASE := bmT7 25 rfl rfl
set_option maxRecDepth 20000 in
theorem m_1544 : Cond.selects yX12_face.cls yX12_face yX12_face ∈ BASE := bmT7 26 rfl rfl
set_option maxRecDepth 20000 in
theorem m_1545 : Cond.code yX12_face cX12_face 3 (some .int) ∈ BASE := bmT7 27 rfl rfl
set_option maxRecDepth 20000 in
theorem m_1546 : Cond.methodLink RL 73 yX12_goes ∈ BASE := bmT7 28 rfl rfl
set_option maxRecDepth 20000 in
theorem m_1547 : Cond.instanceMethod yX12_goes ∈ BASE := bmT7 29 rfl rfl
set_option maxRecDepth 20000 in
theorem m_1548 : Cond.selects yX12_goes.cls yX12_goes yX12_goes ∈ BASE := bmT7 30 rfl rfl
set_option maxRecDepth 20000 in
theorem m_1549 : Cond.code yX12_goes cX12_goes 3 (some .int) ∈ BASE := bmT7 31 rfl rfl
set_option maxRecDepth 20000 in
theorem m_1550 : Cond.methodLink RL 80 yX12_feed ∈ BASE := bmT7 32 rfl rfl
set_option maxRecDepth 20000 in
theorem m_1551 : Cond.instanceMethod yX12_feed ∈ BASE := bmT7 33 rfl rfl
set_option maxRecDepth 20000 in
theorem m_1552 : Cond.selects yX12_feed.cls yX12_feed yX12_feed ∈ BASE := bmT7 34 rfl rfl
set_option maxRecDepth 20000 in
theorem m_1553 : Cond.code yX12_feed cX12_feed 5 (some .int) ∈ BASE := bmT7 35 rfl rfl
set_option maxRecDepth 20000 in
theorem m_1555 : Cond.methodLink RL 84 yX12_text_ ∈ BASE := bmT7 37 rfl rfl
set_option maxRecDepth 20000 in
theorem m_1556 : Cond.instanceMethod yX12_text_ ∈ BASE := bmT7 38 rfl rfl
set_option maxRecDepth 20000 in
theorem m_1557 : Cond.selects yX12_text_.cls yX12_text_ yX12_text_ ∈ BASE := bmT7 39 rfl rfl
set_option maxRecDepth 20000 in
theorem m_1558 : Cond.code yX12_text_ cX12_text_ 3 (some .int) ∈ BASE := bmT7 40 rfl rfl
set_option maxRecDepth 20000 in
theorem m_1620 : Cond.methodLink RL 88 yX12_echo ∈ BASE := bmT7 102 rfl rfl
set_option maxRecDepth 20000 in
theorem m_1621 : Cond.instanceMethod yX12_echo ∈ BASE := bmT7 103 rfl rfl
set_option maxRecDepth 20000 in
theorem m_1622 : Cond.selects yX12_echo.cls yX12_echo yX12_echo ∈ BASE := bmT7 104 rfl rfl
set_option maxRecDepth 20000 in
theorem m_1623 : Cond.code yX12_echo cX12_echo 10 (some .int) ∈ BASE := bmT7 105 rfl rfl
set_option maxRecDepth 20000 in
theorem m_1667 : Cond.methodLink RL 92 yX12_click ∈ BASE := bmT7 149 rfl rfl
set_option maxRecDepth 20000 in
theorem m_1668 : Cond.instanceMethod yX12_click ∈ BASE := bmT7 150 rfl rfl
set_option maxRecDepth 20000 in
theorem m_1669 : Cond.selects yX12_click.cls yX12_click yX12_click ∈ BASE := bmT7 151 rfl rfl
set_option maxRecDepth 20000 in
theorem m_1670 : Cond.code yX12_click cX12_click 2 (some .int) ∈ BASE := bmT7 152 rfl rfl
set_option maxRecDepth 20000 in
theorem m_1691 : Cond.methodLink RL 96 yX12_head ∈ BASE := bmT7 173 rfl rfl
set_option maxRecDepth 20000 in
theorem m_1692 : Cond.instanceMethod yX12_head ∈ BASE := bmT7 174 rfl rfl
set_option maxRecDepth 20000 in
theorem m_1693 : Cond.selects yX12_head.cls yX12_head yX12_head ∈ BASE := bmT7 175 rfl rfl
set_option maxRecDepth 20000 in
theorem m_1694 : Cond.code yX12_head cX12_head 4 (some .int) ∈ BASE := bmT7 176 rfl rfl
set_option maxRecDepth 20000 in
theorem m_1699 : Cond.methodLink RL 100 yX12_heads ∈ BASE := bmT7 181 rfl rfl
set_option maxRecDepth 20000 in
theorem m_1700 : Cond.instanceMethod yX12_heads ∈ BASE := bmT7 182 rfl rfl
set_option maxRecDepth 20000 in
theorem m_1701 : Cond.selects yX12_heads.cls yX12_heads yX12_heads ∈ BASE := bmT7 183 rfl rfl
set_option maxRecDepth 20000 in
theorem m_1702 : Cond.code yX12_heads cX12_heads 7 (some .int) ∈ BASE := bmT7 184 rfl rfl
set_option maxRecDepth 20000 in
theorem m_1703 : Cond.methodLink RL 105 yX12_alike ∈ BASE := bmT7 185 rfl rfl
set_option maxRecDepth 20000 in
theorem m_1704 : Cond.instanceMethod yX12_alike ∈ BASE := bmT7 186 rfl rfl
set_option maxRecDepth 20000 in
theorem m_1705 : Cond.selects yX12_alike.cls yX12_alike yX12_alike ∈ BASE := bmT7 187 rfl rfl
set_option maxRecDepth 20000 in
theorem m_1706 : Cond.code yX12_alike cX12_alike 9 (some .int) ∈ BASE := bmT7 188 rfl rfl
set_option maxRecDepth 20000 in
theorem m_1707 : Cond.methodLink RL 109 yX12_least ∈ BASE := bmT7 189 rfl rfl
set_option maxRecDepth 20000 in
theorem m_1708 : Cond.instanceMethod yX12_least ∈ BASE := bmT7 190 rfl rfl
set_option maxRecDepth 20000 in
theorem m_1709 : Cond.selects yX12_least.cls yX12_least yX12_least ∈ BASE := bmT7 191 rfl rfl
set_option maxRecDepth 20000 in
theorem m_1710 : Cond.code yX12_least cX12_least 6 (some .int) ∈ BASE := bmT7 192 rfl rfl
set_option maxRecDepth 20000 in
theorem m_1711 : Cond.methodLink RL 113 yX12_farthest ∈ BASE := bmT7 193 rfl rfl
set_option maxRecDepth 20000 in
theorem m_1712 : Cond.instanceMethod yX12_farthest ∈ BASE := bmT7 194 rfl rfl
set_option maxRecDepth 20000 in
theorem m_1713 : Cond.selects yX12_farthest.cls yX12_farthest yX12_farthest ∈ BASE := bmT7 195 rfl rfl
set_option maxRecDepth 20000 in
theorem m_1714 : Cond.code yX12_farthest cX12_farthest 5 (some .int) ∈ BASE := bmT7 196 rfl rfl
set_option maxRecDepth 20000 in
theorem m_1715 : Cond.methodLink RL 117 yX12_spots ∈ BASE := bmT7 197 rfl rfl
set_option maxRecDepth 20000 in
theorem m_1716 : Cond.instanceMethod yX12_spots ∈ BASE := bmT7 198 rfl rfl
set_option maxRecDepth 20000 in
theorem m_1717 : Cond.selects yX12_spots.cls yX12_spots yX12_spots ∈ BASE := bmT7 199 rfl rfl
set_option maxRecDepth 20000 in
theorem m_1718 : Cond.code yX12_spots cX12_spots 9 (some .int) ∈ BASE := bmT7 200 rfl rfl
set_option maxRecDepth 20000 in
theorem m_1734 : Cond.methodLink RL 121 yX12_tenths ∈ BASE := bmT7 216 rfl rfl
set_option maxRecDepth 20000 in
theorem m_1735 : Cond.instanceMethod yX12_tenths ∈ BASE := bmT7 217 rfl rfl
set_option maxRecDepth 20000 in
theorem m_1736 : Cond.selects yX12_tenths.cls yX12_tenths yX12_tenths ∈ BASE := bmT7 218 rfl rfl
set_option maxRecDepth 20000 in
theorem m_1737 : Cond.code yX12_tenths cX12_tenths 3 (some .int) ∈ BASE := bmT7 219 rfl rfl
set_option maxRecDepth 20000 in
theorem m_1762 : Cond.methodLink RL 125 yX12_way ∈ BASE := bmT8 4 rfl rfl
set_option maxRecDepth 20000 in
theorem m_1763 : Cond.instanceMethod yX12_way ∈ BASE := bmT8 5 rfl rfl
set_option maxRecDepth 20000 in
theorem m_1764 : Cond.selects yX12_way.cls yX12_way yX12_way ∈ BASE := bmT8 6 rfl rfl
set_option maxRecDepth 20000 in
theorem m_1765 : Cond.code yX12_way cX12_way 7 (some .int) ∈ BASE := bmT8 7 rfl rfl
set_option maxRecDepth 20000 in
theorem m_1775 : Cond.methodLink RL 129 yX12_safe ∈ BASE := bmT8 17 rfl rfl
set_option maxRecDepth 20000 in
theorem m_1776 : Cond.instanceMethod yX12_safe ∈ BASE := bmT8 18 rfl rfl
set_option maxRecDepth 20000 in
theorem m_1777 : Cond.selects yX12_safe.cls yX12_safe yX12_safe ∈ BASE := bmT8 19 rfl rfl
set_option maxRecDepth 20000 in
theorem m_1778 : Cond.code yX12_safe cX12_safe 7 (some .int) ∈ BASE := bmT8 20 rfl rfl
set_option maxRecDepth 20000 in
theorem m_1779 : Cond.methodLink RL 133 yX12_lesson ∈ BASE := bmT8 21 rfl rfl
set_option maxRecDepth 20000 in
theorem m_1780 : Cond.instanceMethod yX12_lesson ∈ BASE := bmT8 22 rfl rfl
set_option maxRecDepth 20000 in
theorem m_1781 : Cond.selects yX12_lesson.cls yX12_lesson yX12_lesson ∈ BASE := bmT8 23 rfl rfl
set_option maxRecDepth 20000 in
theorem m_1782 : Cond.code yX12_lesson cX12_lesson 5 (some .int) ∈ BASE := bmT8 24 rfl rfl
set_option maxRecDepth 20000 in
theorem m_1783 : Cond.methodLink RL 137 yX12_learn ∈ BASE := bmT8 25 rfl rfl
set_option maxRecDepth 20000 in
theorem m_1784 : Cond.instanceMethod yX12_learn ∈ BASE := bmT8 26 rfl rfl
set_option maxRecDepth 20000 in
theorem m_1785 : Cond.selects yX12_learn.cls yX12_learn yX12_learn ∈ BASE := bmT8 27 rfl rfl
set_option maxRecDepth 20000 in
theorem m_1786 : Cond.code yX12_learn cX12_learn 4 (some .int) ∈ BASE := bmT8 28 rfl rfl
set_option maxRecDepth 20000 in
theorem m_1791 : Cond.methodLink RL 141 yX12_posts ∈ BASE := bmT8 33 rfl rfl
set_option maxRecDepth 20000 in
theorem m_1792 : Cond.instanceMethod yX12_posts ∈ BASE := bmT8 34 rfl rfl
set_option maxRecDepth 20000 in
theorem m_1793 : Cond.selects yX12_posts.cls yX12_posts yX12_posts ∈ BASE := bmT8 35 rfl rfl
set_option maxRecDepth 20000 in
theorem m_1794 : Cond.code yX12_posts cX12_posts 9 (some .int) ∈ BASE := bmT8 36 rfl rfl
set_option maxRecDepth 20000 in
theorem m_1799 : Cond.methodLink RL 145 yX12_voice ∈ BASE := bmT8 41 rfl rfl
set_option maxRecDepth 20000 in
theorem m_1800 : Cond.instanceMethod yX12_voice ∈ BASE := bmT8 42 rfl rfl
set_option maxRecDepth 20000 in
theorem m_1801 : Cond.selects yX12_voice.cls yX12_voice yX12_voice ∈ BASE := bmT8 43 rfl rfl
set_option maxRecDepth 20000 in
theorem m_1802 : Cond.code yX12_voice cX12_voice 5 (some .int) ∈ BASE := bmT8 44 rfl rfl
set_option maxRecDepth 20000 in
theorem m_1823 : Cond.methodLink RL 149 yX12_trace ∈ BASE := bmT8 65 rfl rfl
set_option maxRecDepth 20000 in
theorem m_1824 : Cond.instanceMethod yX12_trace ∈ BASE := bmT8 66 rfl rfl
set_option maxRecDepth 20000 in
theorem m_1825 : Cond.selects yX12_trace.cls yX12_trace yX12_trace ∈ BASE := bmT8 67 rfl rfl
set_option maxRecDepth 20000 in
theorem m_1826 : Cond.code yX12_trace cX12_trace 2 (some .int) ∈ BASE := bmT8 68 rfl rfl
set_option maxRecDepth 20000 in
theorem m_1827 : Cond.methodLink RL 153 yX12_sheet ∈ BASE := bmT8 69 rfl rfl
set_option maxRecDepth 20000 in
theorem m_1828 : Cond.instanceMethod yX12_sheet ∈ BASE := bmT8 70 rfl rfl
set_option maxRecDepth 20000 in
theorem m_1829 : Cond.selects yX12_sheet.cls yX12_sheet yX12_sheet ∈ BASE := bmT8 71 rfl rfl
set_option maxRecDepth 20000 in
theorem m_1830 : Cond.code yX12_sheet cX12_sheet 5 (some .int) ∈ BASE := bmT8 72 rfl rfl
set_option maxRecDepth 20000 in
theorem m_1831 : Cond.methodLink RL 157 yX12_put ∈ BASE := bmT8 73 rfl rfl
set_option maxRecDepth 20000 in
theorem m_1832 : Cond.instanceMethod yX12_put ∈ BASE := bmT8 74 rfl rfl
set_option maxRecDepth 20000 in
theorem m_1833 : Cond.selects yX12_put.cls yX12_put yX12_put ∈ BASE := bmT8 75 rfl rfl
set_option maxRecDepth 20000 in
theorem m_1834 : Cond.code yX12_put cX12_put 4 (some .int) ∈ BASE := bmT8 76 rfl rfl
set_option maxRecDepth 20000 in
theorem m_1835 : Cond.methodLink RL 161 yX12_move ∈ BASE := bmT8 77 rfl rfl
set_option maxRecDepth 20000 in
theorem m_1836 : Cond.instanceMethod yX12_move ∈ BASE := bmT8 78 rfl rfl
set_option maxRecDepth 20000 in
theorem m_1837 : Cond.selects yX12_move.cls yX12_move yX12_move ∈ BASE := bmT8 79 rfl rfl
set_option maxRecDepth 20000 in
theorem m_1838 : Cond.code yX12_move cX12_move 7 (some .int) ∈ BASE := bmT8 80 rfl rfl
set_option maxRecDepth 20000 in
theorem m_1839 : Cond.methodLink RL 166 yX12_image ∈ BASE := bmT8 81 rfl rfl
set_option maxRecDepth 20000 in
theorem m_1840 : Cond.instanceMethod yX12_image ∈ BASE := bmT8 82 rfl rfl
set_option maxRecDepth 20000 in
theorem m_1841 : Cond.selects yX12_image.cls yX12_image yX12_image ∈ BASE := bmT8 83 rfl rfl
set_option maxRecDepth 20000 in
theorem m_1842 : Cond.code yX12_image cX12_image 1 (some .int) ∈ BASE := bmT8 84 rfl rfl
set_option maxRecDepth 20000 in
theorem m_1846 : Cond.methodLink RL 170 yX12_restore ∈ BASE := bmT8 88 rfl rfl
set_option maxRecDepth 20000 in
theorem m_1847 : Cond.instanceMethod yX12_restore ∈ BASE := bmT8 89 rfl rfl
set_option maxRecDepth 20000 in
theorem m_1848 : Cond.selects yX12_restore.cls yX12_restore yX12_restore ∈ BASE := bmT8 90 rfl rfl
set_option maxRecDepth 20000 in
theorem m_1849 : Cond.code yX12_restore cX12_restore 1 (some .int) ∈ BASE := bmT8 91 rfl rfl
set_option maxRecDepth 20000 in
theorem m_1850 : Cond.methodLink RL 174 yX12_tell ∈ BASE := bmT8 92 rfl rfl
set_option maxRecDepth 20000 in
theorem m_1851 : Cond.instanceMethod yX12_tell ∈ BASE := bmT8 93 rfl rfl
set_option maxRecDepth 20000 in
theorem m_1852 : Cond.selects yX12_tell.cls yX12_tell yX12_tell ∈ BASE := bmT8 94 rfl rfl
set_option maxRecDepth 20000 in
theorem m_1853 : Cond.code yX12_tell cX12_tell 2 (some .int) ∈ BASE := bmT8 95 rfl rfl
set_option maxRecDepth 20000 in
theorem m_1854 : Cond.methodLink RL 178 yX12_check ∈ BASE := bmT8 96 rfl rfl
set_option maxRecDepth 20000 in
theorem m_1855 : Cond.instanceMethod yX12_check ∈ BASE := bmT8 97 rfl rfl
set_option maxRecDepth 20000 in
theorem m_1856 : Cond.selects yX12_check.cls yX12_check yX12_check ∈ BASE := bmT8 98 rfl rfl
set_option maxRecDepth 20000 in
theorem m_1857 : Cond.code yX12_check cX12_check 5 (some .int) ∈ BASE := bmT8 99 rfl rfl
set_option maxRecDepth 20000 in
theorem m_1858 : Cond.methodLink RL 182 yX12_count ∈ BASE := bmT8 100 rfl rfl
set_option maxRecDepth 20000 in
theorem m_1859 : Cond.instanceMethod yX12_count ∈ BASE := bmT8 101 rfl rfl
set_option maxRecDepth 20000 in
theorem m_1860 : Cond.selects yX12_count.cls yX12_count yX12_count ∈ BASE := bmT8 102 rfl rfl
set_option maxRecDepth 20000 in
theorem m_1861 : Cond.code yX12_count cX12_count 4 (some .int) ∈ BASE := bmT8 103 rfl rfl
set_option maxRecDepth 20000 in
theorem m_1866 : Cond.methodLink RL 186 yX12_told ∈ BASE := bmT8 108 rfl rfl
set_option maxRecDepth 20000 in
theorem m_1867 : Cond.instanceMethod yX12_told ∈ BASE := bmT8 109 rfl rfl
set_option maxRecDepth 20000 in
theorem m_1868 : Cond.selects yX12_told.cls yX12_told yX12_told ∈ BASE := bmT8 110 rfl rfl
set_option maxRecDepth 20000 in
theorem m_1869 : Cond.code yX12_told cX12_told 2 (some .int) ∈ BASE := bmT8 111 rfl rfl
set_option maxRecDepth 20000 in
theorem m_1870 : Cond.constantLong RL 74 (4294967295) ∈ BASE := bmT8 112 rfl rfl
theorem kV_X11_air : KV yX11_air cX11_air 3 (some .int) 2 := ⟨m_582, m_583, m_79, m_584, nhM_0, nhV_0, pdn_8⟩
theorem kV_X11_alike : KV yX11_alike cX11_alike 7 (some .int) 5 := ⟨m_948, m_949, m_79, m_950, nhM_0, nhV_0, pdn_14⟩
theorem kV_X11_as : KV yX11_as cX11_as 3 (some .int) 2 := ⟨m_636, m_637, m_79, m_638, nhM_0, nhV_0, pdn_8⟩
theorem kV_X11_at : KV yX11_at cX11_at 2 (some .int) 1 := ⟨m_559, m_560, m_79, m_561, nhM_0, nhV_0, pdn_2⟩
theorem kV_X11_away : KV yX11_away cX11_away 2 (some .int) 1 := ⟨m_543, m_544, m_79, m_545, nhM_0, nhV_0, pdn_2⟩
theorem kV_X11_check : KV yX11_check cX11_check 3 (some .int) 1 := ⟨m_1289, m_1290, m_79, m_1291, nhM_0, nhV_0, pdn_2⟩
theorem kV_X11_click : KV yX11_click cX11_click 2 (some .int) 1 := ⟨m_893, m_894, m_79, m_895, nhM_0, nhV_0, pdn_2⟩
theorem kV_X11_count : KV yX11_count cX11_count 2 (some .int) 1 := ⟨m_1293, m_1294, m_79, m_1295, nhM_0, nhV_0, pdn_2⟩
theorem kV_X11_echo : KV yX11_echo cX11_echo 5 (some .int) 4 := ⟨m_836, m_837, m_79, m_838, nhM_0, nhV_0, pdn_25⟩
theorem kV_X11_face : KV yX11_face cX11_face 4 (some .int) 2 := ⟨m_658, m_659, m_79, m_660, nhM_0, nhV_0, pdn_8⟩
theorem kV_X11_farthest : KV yX11_farthest cX11_farthest 6 (some .int) 3 := ⟨m_970, m_971, m_79, m_972, nhM_0, nhV_0, pdn_3⟩
theorem kV_X11_feed : KV yX11_feed cX11_feed 5 (some .int) 2 := ⟨m_666, m_667, m_79, m_668, nhM_0, nhV_0, pdn_43⟩
theorem kV_X11_goes : KV yX11_goes cX11_goes 4 (some .int) 2 := ⟨m_662, m_663, m_79, m_664, nhM_0, nhV_0, pdn_44⟩
theorem kV_X11_habit : KV yX11_habit cX11_habit 6 (some .int) 4 := ⟨m_650, m_651, m_79, m_652, nhM_0, nhV_0, pdn_25⟩
theorem kV_X11_head : KV yX11_head cX11_head 5 (some .int) 3 := ⟨m_926, m_927, m_79, m_928, nhM_0, nhV_0, pdn_3⟩
theorem kV_X11_heads : KV yX11_heads cX11_heads 3 (some .int) 2 := ⟨m_934, m_935, m_79, m_936, nhM_0, nhV_0, pdn_8⟩
theorem kV_X11_image : KV yX11_image cX11_image 1 (some .int) 0 := ⟨m_1251, m_1252, m_79, m_1253, nhM_0, nhV_0, pdn_6⟩
theorem kV_X11_kind : KV yX11_kind cX11_kind 4 (some .int) 3 := ⟨m_551, m_552, m_79, m_553, nhM_0, nhV_0, pdn_3⟩
theorem kV_X11_lays : KV yX11_lays cX11_lays 8 (some .int) 2 := ⟨m_563, m_564, m_79, m_565, nhM_0, nhV_0, pdn_8⟩
theorem kV_X11_learn : KV yX11_learn cX11_learn 5 (some .int) 3 := ⟨m_1126, m_1127, m_79, m_1128, nhM_0, nhV_0, pdn_3⟩
theorem kV_X11_least : KV yX11_least cX11_least 7 (some .int) 4 := ⟨m_958, m_959, m_79, m_960, nhM_0, nhV_0, pdn_25⟩
theorem kV_X11_lesson : KV yX11_lesson cX11_lesson 4 (some .int) 3 := ⟨m_1111, m_1112, m_79, m_1113, nhM_0, nhV_0, pdn_3⟩
theorem kV_X11_move : KV yX11_move cX11_move 8 (some .int) 5 := ⟨m_1242, m_1243, m_79, m_1244, nhM_0, nhV_0, pdn_14⟩
theorem kV_X11_moves : KV yX11_moves cX11_moves 5 (some .int) 3 := ⟨m_536, m_537, m_79, m_538, nhM_0, nhV_0, pdn_3⟩
theorem kV_X11_posts : KV yX11_posts cX11_posts 5 (some .int) 4 := ⟨m_1156, m_1157, m_79, m_1158, nhM_0, nhV_0, pdn_25⟩
theorem kV_X11_put : KV yX11_put cX11_put 4 (some .int) 3 := ⟨m_1233, m_1234, m_79, m_1235, nhM_0, nhV_0, pdn_3⟩
theorem kV_X11_restore : KV yX11_restore cX11_restore 1 (some .int) 0 := ⟨m_1281, m_1282, m_79, m_1283, nhM_0, nhV_0, pdn_6⟩
theorem kV_X11_safe : KV yX11_safe cX11_safe 4 (some .int) 1 := ⟨m_1099, m_1100, m_79, m_1101, nhM_0, nhV_0, pdn_2⟩
theorem kV_X11_sheet : KV yX11_sheet cX11_sheet 4 (some .int) 3 := ⟨m_1219, m_1220, m_79, m_1221, nhM_0, nhV_0, pdn_3⟩
theorem kV_X11_spots : KV yX11_spots cX11_spots 5 (some .int) 4 := ⟨m_975, m_976, m_79, m_977, nhM_0, nhV_0, pdn_25⟩
theorem kV_X11_tell : KV yX11_tell cX11_tell 2 (some .int) 1 := ⟨m_1285, m_1286, m_79, m_1287, nhM_0, nhV_0, pdn_2⟩
theorem kV_X11_tenths : KV yX11_tenths cX11_tenths 3 (some .int) 1 := ⟨m_1022, m_1023, m_79, m_1024, nhM_0, nhV_0, pdn_2⟩
theorem kV_X11_text : KV yX11_text cX11_text 3 (some .int) 1 := ⟨m_678, m_679, m_79, m_680, nhM_0, nhV_0, pdn_2⟩
theorem kV_X11_thing : KV yX11_thing cX11_thing 3 (some .int) 2 := ⟨m_488, m_489, m_79, m_490, nhM_0, nhV_0, pdn_8⟩
theorem kV_X11_thingIs : KV yX11_thingIs cX11_thingIs 3 (some .int) 2 := ⟨m_523, m_524, m_79, m_525, nhM_0, nhV_0, pdn_8⟩
theorem kV_X11_told : KV yX11_told cX11_told 2 (some .int) 1 := ⟨m_1309, m_1310, m_79, m_1311, nhM_0, nhV_0, pdn_2⟩
theorem kV_X11_trace : KV yX11_trace cX11_trace 2 (some .int) 1 := ⟨m_1211, m_1212, m_79, m_1213, nhM_0, nhV_0, pdn_2⟩
theorem kV_X11_voice : KV yX11_voice cX11_voice 5 (some .int) 3 := ⟨m_1177, m_1178, m_79, m_1179, nhM_0, nhV_0, pdn_3⟩
theorem kV_X11_walker : KV yX11_walker cX11_walker 4 (some .int) 3 := ⟨m_590, m_591, m_79, m_592, nhM_0, nhV_0, pdn_3⟩
theorem kV_X11_walkerIs : KV yX11_walkerIs cX11_walkerIs 3 (some .int) 2 := ⟨m_606, m_607, m_79, m_608, nhM_0, nhV_0, pdn_8⟩
theorem kV_X11_way : KV yX11_way cX11_way 6 (some .int) 3 := ⟨m_1068, m_1069, m_79, m_1070, nhM_0, nhV_0, pdn_3⟩
theorem kV_X12_air : KV yX12_air cX12_air 4 (some .int) 2 := ⟨m_1502, m_1503, m_92, m_1504, nhM_17, nhV_17, pdn_8⟩
theorem kV_X12_alike : KV yX12_alike cX12_alike 9 (some .int) 5 := ⟨m_1704, m_1705, m_92, m_1706, nhM_17, nhV_17, pdn_14⟩
theorem kV_X12_as : KV yX12_as cX12_as 3 (some .int) 2 := ⟨m_1529, m_1530, m_92, m_1531, nhM_17, nhV_17, pdn_8⟩
theorem kV_X12_at : KV yX12_at cX12_at 2 (some .int) 1 := ⟨m_1490, m_1491, m_92, m_1492, nhM_17, nhV_17, pdn_2⟩
theorem kV_X12_away : KV yX12_away cX12_away 2 (some .int) 1 := ⟨m_1478, m_1479, m_92, m_1480, nhM_17, nhV_17, pdn_2⟩
theorem kV_X12_check : KV yX12_check cX12_check 5 (some .int) 1 := ⟨m_1855, m_1856, m_92, m_1857, nhM_17, nhV_17, pdn_2⟩
theorem kV_X12_click : KV yX12_click cX12_click 2 (some .int) 1 := ⟨m_1668, m_1669, m_92, m_1670, nhM_17, nhV_17, pdn_2⟩
theorem kV_X12_count : KV yX12_count cX12_count 4 (some .int) 1 := ⟨m_1859, m_1860, m_92, m_1861, nhM_17, nhV_17, pdn_2⟩
theorem kV_X12_echo : KV yX12_echo cX12_echo 10 (some .int) 4 := ⟨m_1621, m_1622, m_92, m_1623, nhM_17, nhV_17, pdn_25⟩
theorem kV_X12_face : KV yX12_face cX12_face 3 (some .int) 2 := ⟨m_1543, m_1544, m_92, m_1545, nhM_17, nhV_17, pdn_8⟩
theorem kV_X12_farthest : KV yX12_farthest cX12_farthest 5 (some .int) 3 := ⟨m_1712, m_1713, m_92, m_1714, nhM_17, nhV_17, pdn_3⟩
theorem kV_X12_feed : KV yX12_feed cX12_feed 5 (some .int) 2 := ⟨m_1551, m_1552, m_92, m_1553, nhM_17, nhV_17, pdn_43⟩
theorem kV_X12_goes : KV yX12_goes cX12_goes 3 (some .int) 2 := ⟨m_1547, m_1548, m_92, m_1549, nhM_17, nhV_17, pdn_44⟩
theorem kV_X12_habit : KV yX12_habit cX12_habit 5 (some .int) 4 := ⟨m_1539, m_1540, m_92, m_1541, nhM_17, nhV_17, pdn_25⟩
theorem kV_X12_head : KV yX12_head cX12_head 4 (some .int) 3 := ⟨m_1692, m_1693, m_92, m_1694, nhM_17, nhV_17, pdn_3⟩
theorem kV_X12_heads : KV yX12_heads cX12_heads 7 (some .int) 2 := ⟨m_1700, m_1701, m_92, m_1702, nhM_17, nhV_17, pdn_8⟩
theorem kV_X12_image : KV yX12_image cX12_image 1 (some .int) 0 := ⟨m_1840, m_1841, m_92, m_1842, nhM_17, nhV_17, pdn_6⟩
theorem kV_X12_kind : KV yX12_kind cX12_kind 4 (some .int) 3 := ⟨m_1486, m_1487, m_92, m_1488, nhM_17, nhV_17, pdn_3⟩
theorem kV_X12_lays : KV yX12_lays cX12_lays 6 (some .int) 2 := ⟨m_1494, m_1495, m_92, m_1496, nhM_17, nhV_17, pdn_8⟩
theorem kV_X12_learn : KV yX12_learn cX12_learn 4 (some .int) 3 := ⟨m_1784, m_1785, m_92, m_1786, nhM_17, nhV_17, pdn_3⟩
theorem kV_X12_least : KV yX12_least cX12_least 6 (some .int) 4 := ⟨m_1708, m_1709, m_92, m_1710, nhM_17, nhV_17, pdn_25⟩
theorem kV_X12_lesson : KV yX12_lesson cX12_lesson 5 (some .int) 3 := ⟨m_1780, m_1781, m_92, m_1782, nhM_17, nhV_17, pdn_3⟩
theorem kV_X12_move : KV yX12_move cX12_move 7 (some .int) 5 := ⟨m_1836, m_1837, m_92, m_1838, nhM_17, nhV_17, pdn_14⟩
theorem kV_X12_moves : KV yX12_moves cX12_moves 4 (some .int) 3 := ⟨m_1470, m_1471, m_92, m_1472, nhM_17, nhV_17, pdn_3⟩
theorem kV_X12_posts : KV yX12_posts cX12_posts 9 (some .int) 4 := ⟨m_1792, m_1793, m_92, m_1794, nhM_17, nhV_17, pdn_25⟩
theorem kV_X12_put : KV yX12_put cX12_put 4 (some .int) 3 := ⟨m_1832, m_1833, m_92, m_1834, nhM_17, nhV_17, pdn_3⟩
theorem kV_X12_restore : KV yX12_restore cX12_restore 1 (some .int) 0 := ⟨m_1847, m_1848, m_92, m_1849, nhM_17, nhV_17, pdn_6⟩
theorem kV_X12_safe : KV yX12_safe cX12_safe 7 (some .int) 1 := ⟨m_1776, m_1777, m_92, m_1778, nhM_17, nhV_17, pdn_2⟩
theorem kV_X12_sheet : KV yX12_sheet cX12_sheet 5 (some .int) 3 := ⟨m_1828, m_1829, m_92, m_1830, nhM_17, nhV_17, pdn_3⟩
theorem kV_X12_spots : KV yX12_spots cX12_spots 9 (some .int) 4 := ⟨m_1716, m_1717, m_92, m_1718, nhM_17, nhV_17, pdn_25⟩
theorem kV_X12_tell : KV yX12_tell cX12_tell 2 (some .int) 1 := ⟨m_1851, m_1852, m_92, m_1853, nhM_17, nhV_17, pdn_2⟩
theorem kV_X12_tenths : KV yX12_tenths cX12_tenths 3 (some .int) 1 := ⟨m_1735, m_1736, m_92, m_1737, nhM_17, nhV_17, pdn_2⟩
theorem kV_X12_text_ : KV yX12_text_ cX12_text_ 3 (some .int) 1 := ⟨m_1556, m_1557, m_92, m_1558, nhM_17, nhV_17, pdn_2⟩
theorem kV_X12_thingIs : KV yX12_thingIs cX12_thingIs 3 (some .int) 2 := ⟨m_1462, m_1463, m_92, m_1464, nhM_17, nhV_17, pdn_8⟩
theorem kV_X12_thing_ : KV yX12_thing_ cX12_thing_ 3 (some .int) 2 := ⟨m_1424, m_1425, m_92, m_1426, nhM_17, nhV_17, pdn_8⟩
theorem kV_X12_told : KV yX12_told cX12_told 2 (some .int) 1 := ⟨m_1867, m_1868, m_92, m_1869, nhM_17, nhV_17, pdn_2⟩
theorem kV_X12_trace : KV yX12_trace cX12_trace 2 (some .int) 1 := ⟨m_1824, m_1825, m_92, m_1826, nhM_17, nhV_17, pdn_2⟩
theorem kV_X12_voice : KV yX12_voice cX12_voice 5 (some .int) 3 := ⟨m_1800, m_1801, m_92, m_1802, nhM_17, nhV_17, pdn_3⟩
theorem kV_X12_walker : KV yX12_walker cX12_walker 6 (some .int) 3 := ⟨m_1506, m_1507, m_92, m_1508, nhM_17, nhV_17, pdn_3⟩
theorem kV_X12_walkerIs : KV yX12_walkerIs cX12_walkerIs 3 (some .int) 2 := ⟨m_1510, m_1511, m_92, m_1512, nhM_17, nhV_17, pdn_8⟩
theorem kV_X12_way : KV yX12_way cX12_way 7 (some .int) 3 := ⟨m_1763, m_1764, m_92, m_1765, nhM_17, nhV_17, pdn_3⟩
theorem ch_code_192 : (code.data.toList.drop 192).take 36 = [0, 0, 6, 57, 0, 0, 6, 70, 0, 0, 6, 93, 0, 0, 6, 116, 0, 0, 6, 139, 43, 42, 29, 4, 96, 46, 42, 29, 5, 96, 46, 182, 0, 13, 87, 44] := by decide +kernel
theorem dL_law_212 : decode code 212 = .ok (.aload_n 1, 1) := do_43 (rdb (p := 192) (i := 20) ch_code_192 rfl)
theorem dL_law_213 : decode code 213 = .ok (.aload_n 0, 1) := do_42 (rdb (p := 192) (i := 21) ch_code_192 rfl)
theorem dL_law_214 : decode code 214 = .ok (.iload_n 3, 1) := do_29 (rdb (p := 192) (i := 22) ch_code_192 rfl)
theorem dL_law_215 : decode code 215 = .ok (.iconst 1, 1) := do_4 (rdb (p := 192) (i := 23) ch_code_192 rfl)
theorem dL_law_216 : decode code 216 = .ok (.iadd, 1) := do_96 (rdb (p := 192) (i := 24) ch_code_192 rfl)
theorem dL_law_217 : decode code 217 = .ok (.iaload, 1) := do_46 (rdb (p := 192) (i := 25) ch_code_192 rfl)
theorem dL_law_218 : decode code 218 = .ok (.aload_n 0, 1) := do_42 (rdb (p := 192) (i := 26) ch_code_192 rfl)
theorem dL_law_219 : decode code 219 = .ok (.iload_n 3, 1) := do_29 (rdb (p := 192) (i := 27) ch_code_192 rfl)
theorem dL_law_220 : decode code 220 = .ok (.iconst 2, 1) := do_5 (rdb (p := 192) (i := 28) ch_code_192 rfl)
theorem dL_law_221 : decode code 221 = .ok (.iadd, 1) := do_96 (rdb (p := 192) (i := 29) ch_code_192 rfl)
theorem dL_law_222 : decode code 222 = .ok (.iaload, 1) := do_46 (rdb (p := 192) (i := 30) ch_code_192 rfl)
theorem dL_law_223 : decode code 223 = .ok (.invokevirtual 13, 3) := do_182 (rdb (p := 192) (i := 31) ch_code_192 rfl) (rdb (p := 192) (i := 32) ch_code_192 rfl) (rdb (p := 192) (i := 33) ch_code_192 rfl) rfl
theorem ch_code_224 : (code.data.toList.drop 224).take 36 = [0, 13, 87, 44, 42, 29, 4, 96, 46, 42, 29, 5, 96, 46, 182, 0, 17, 87, 167, 5, 209, 43, 42, 29, 4, 96, 46, 42, 29, 5, 96, 46, 182, 0, 18, 87] := by decide +kernel
theorem dL_law_226 : decode code 226 = .ok (.pop, 1) := do_87 (rdb (p := 224) (i := 2) ch_code_224 rfl)
theorem dL_law_227 : decode code 227 = .ok (.aload_n 2, 1) := do_44 (rdb (p := 224) (i := 3) ch_code_224 rfl)
theorem dL_law_228 : decode code 228 = .ok (.aload_n 0, 1) := do_42 (rdb (p := 224) (i := 4) ch_code_224 rfl)
theorem dL_law_229 : decode code 229 = .ok (.iload_n 3, 1) := do_29 (rdb (p := 224) (i := 5) ch_code_224 rfl)
theorem dL_law_230 : decode code 230 = .ok (.iconst 1, 1) := do_4 (rdb (p := 224) (i := 6) ch_code_224 rfl)
theorem dL_law_231 : decode code 231 = .ok (.iadd, 1) := do_96 (rdb (p := 224) (i := 7) ch_code_224 rfl)
theorem dL_law_232 : decode code 232 = .ok (.iaload, 1) := do_46 (rdb (p := 224) (i := 8) ch_code_224 rfl)
theorem dL_law_233 : decode code 233 = .ok (.aload_n 0, 1) := do_42 (rdb (p := 224) (i := 9) ch_code_224 rfl)
theorem dL_law_234 : decode code 234 = .ok (.iload_n 3, 1) := do_29 (rdb (p := 224) (i := 10) ch_code_224 rfl)
theorem dL_law_235 : decode code 235 = .ok (.iconst 2, 1) := do_5 (rdb (p := 224) (i := 11) ch_code_224 rfl)
theorem dL_law_236 : decode code 236 = .ok (.iadd, 1) := do_96 (rdb (p := 224) (i := 12) ch_code_224 rfl)
theorem dL_law_237 : decode code 237 = .ok (.iaload, 1) := do_46 (rdb (p := 224) (i := 13) ch_code_224 rfl)
theorem dL_law_238 : decode code 238 = .ok (.invokevirtual 17, 3) := do_182 (rdb (p := 224) (i := 14) ch_code_224 rfl) (rdb (p := 224) (i := 15) ch_code_224 rfl) (rdb (p := 224) (i := 16) ch_code_224 rfl) rfl
theorem dL_law_241 : decode code 241 = .ok (.pop, 1) := do_87 (rdb (p := 224) (i := 17) ch_code_224 rfl)
theorem dL_law_242 : decode code 242 = .ok (.goto 1489, 3) := do_167 (rdb (p := 224) (i := 18) ch_code_224 rfl) (rdb (p := 224) (i := 19) ch_code_224 rfl) (rdb (p := 224) (i := 20) ch_code_224 rfl) (by decide +kernel)
theorem dL_law_245 : decode code 245 = .ok (.aload_n 1, 1) := do_43 (rdb (p := 224) (i := 21) ch_code_224 rfl)
theorem dL_law_246 : decode code 246 = .ok (.aload_n 0, 1) := do_42 (rdb (p := 224) (i := 22) ch_code_224 rfl)
theorem dL_law_247 : decode code 247 = .ok (.iload_n 3, 1) := do_29 (rdb (p := 224) (i := 23) ch_code_224 rfl)
theorem dL_law_248 : decode code 248 = .ok (.iconst 1, 1) := do_4 (rdb (p := 224) (i := 24) ch_code_224 rfl)
theorem dL_law_249 : decode code 249 = .ok (.iadd, 1) := do_96 (rdb (p := 224) (i := 25) ch_code_224 rfl)
theorem dL_law_250 : decode code 250 = .ok (.iaload, 1) := do_46 (rdb (p := 224) (i := 26) ch_code_224 rfl)
theorem dL_law_251 : decode code 251 = .ok (.aload_n 0, 1) := do_42 (rdb (p := 224) (i := 27) ch_code_224 rfl)
theorem dL_law_252 : decode code 252 = .ok (.iload_n 3, 1) := do_29 (rdb (p := 224) (i := 28) ch_code_224 rfl)
theorem dL_law_253 : decode code 253 = .ok (.iconst 2, 1) := do_5 (rdb (p := 224) (i := 29) ch_code_224 rfl)
theorem dL_law_254 : decode code 254 = .ok (.iadd, 1) := do_96 (rdb (p := 224) (i := 30) ch_code_224 rfl)
theorem dL_law_255 : decode code 255 = .ok (.iaload, 1) := do_46 (rdb (p := 224) (i := 31) ch_code_224 rfl)
theorem ch_code_256 : (code.data.toList.drop 256).take 36 = [182, 0, 18, 87, 44, 42, 29, 4, 96, 46, 42, 29, 5, 96, 46, 182, 0, 21, 87, 167, 5, 176, 43, 42, 29, 4, 96, 46, 42, 29, 5, 96, 46, 42, 29, 6] := by decide +kernel
theorem dL_law_256 : decode code 256 = .ok (.invokevirtual 18, 3) := do_182 (rdb (p := 256) (i := 0) ch_code_256 rfl) (rdb (p := 256) (i := 1) ch_code_256 rfl) (rdb (p := 256) (i := 2) ch_code_256 rfl) rfl
theorem dL_law_259 : decode code 259 = .ok (.pop, 1) := do_87 (rdb (p := 256) (i := 3) ch_code_256 rfl)
theorem dL_law_260 : decode code 260 = .ok (.aload_n 2, 1) := do_44 (rdb (p := 256) (i := 4) ch_code_256 rfl)
theorem dL_law_261 : decode code 261 = .ok (.aload_n 0, 1) := do_42 (rdb (p := 256) (i := 5) ch_code_256 rfl)
theorem dL_law_262 : decode code 262 = .ok (.iload_n 3, 1) := do_29 (rdb (p := 256) (i := 6) ch_code_256 rfl)
theorem dL_law_263 : decode code 263 = .ok (.iconst 1, 1) := do_4 (rdb (p := 256) (i := 7) ch_code_256 rfl)
theorem dL_law_264 : decode code 264 = .ok (.iadd, 1) := do_96 (rdb (p := 256) (i := 8) ch_code_256 rfl)
theorem dL_law_265 : decode code 265 = .ok (.iaload, 1) := do_46 (rdb (p := 256) (i := 9) ch_code_256 rfl)
theorem dL_law_266 : decode code 266 = .ok (.aload_n 0, 1) := do_42 (rdb (p := 256) (i := 10) ch_code_256 rfl)
theorem dL_law_267 : decode code 267 = .ok (.iload_n 3, 1) := do_29 (rdb (p := 256) (i := 11) ch_code_256 rfl)
theorem dL_law_268 : decode code 268 = .ok (.iconst 2, 1) := do_5 (rdb (p := 256) (i := 12) ch_code_256 rfl)
theorem dL_law_269 : decode code 269 = .ok (.iadd, 1) := do_96 (rdb (p := 256) (i := 13) ch_code_256 rfl)
theorem dL_law_270 : decode code 270 = .ok (.iaload, 1) := do_46 (rdb (p := 256) (i := 14) ch_code_256 rfl)
theorem dL_law_271 : decode code 271 = .ok (.invokevirtual 21, 3) := do_182 (rdb (p := 256) (i := 15) ch_code_256 rfl) (rdb (p := 256) (i := 16) ch_code_256 rfl) (rdb (p := 256) (i := 17) ch_code_256 rfl) rfl
theorem dL_law_274 : decode code 274 = .ok (.pop, 1) := do_87 (rdb (p := 256) (i := 18) ch_code_256 rfl)
theorem dL_law_275 : decode code 275 = .ok (.goto 1456, 3) := do_167 (rdb (p := 256) (i := 19) ch_code_256 rfl) (rdb (p := 256) (i := 20) ch_code_256 rfl) (rdb (p := 256) (i := 21) ch_code_256 rfl) (by decide +kernel)
theorem dL_law_278 : decode code 278 = .ok (.aload_n 1, 1) := do_43 (rdb (p := 256) (i := 22) ch_code_256 rfl)
theorem dL_law_279 : decode code 279 = .ok (.aload_n 0, 1) := do_42 (rdb (p := 256) (i := 23) ch_code_256 rfl)
theorem dL_law_280 : decode code 280 = .ok (.iload_n 3, 1) := do_29 (rdb (p := 256) (i := 24) ch_code_256 rfl)
theorem dL_law_281 : decode code 281 = .ok (.iconst 1, 1) := do_4 (rdb (p := 256) (i := 25) ch_code_256 rfl)
theorem dL_law_282 : decode code 282 = .ok (.iadd, 1) := do_96 (rdb (p := 256) (i := 26) ch_code_256 rfl)
theorem dL_law_283 : decode code 283 = .ok (.iaload, 1) := do_46 (rdb (p := 256) (i := 27) ch_code_256 rfl)
theorem dL_law_284 : decode code 284 = .ok (.aload_n 0, 1) := do_42 (rdb (p := 256) (i := 28) ch_code_256 rfl)
theorem dL_law_285 : decode code 285 = .ok (.iload_n 3, 1) := do_29 (rdb (p := 256) (i := 29) ch_code_256 rfl)
theorem dL_law_286 : decode code 286 = .ok (.iconst 2, 1) := do_5 (rdb (p := 256) (i := 30) ch_code_256 rfl)
theorem dL_law_287 : decode code 287 = .ok (.iadd, 1) := do_96 (rdb (p := 256) (i := 31) ch_code_256 rfl)
theorem ch_code_288 : (code.data.toList.drop 288).take 36 = [46, 42, 29, 6, 96, 46, 182, 0, 22, 87, 44, 42, 29, 4, 96, 46, 42, 29, 5, 96, 46, 42, 29, 6, 96, 46, 182, 0, 26, 87, 167, 5, 133, 43, 42, 29] := by decide +kernel
theorem dL_law_288 : decode code 288 = .ok (.iaload, 1) := do_46 (rdb (p := 288) (i := 0) ch_code_288 rfl)
theorem dL_law_289 : decode code 289 = .ok (.aload_n 0, 1) := do_42 (rdb (p := 288) (i := 1) ch_code_288 rfl)
theorem dL_law_290 : decode code 290 = .ok (.iload_n 3, 1) := do_29 (rdb (p := 288) (i := 2) ch_code_288 rfl)
theorem dL_law_291 : decode code 291 = .ok (.iconst 3, 1) := do_6 (rdb (p := 288) (i := 3) ch_code_288 rfl)
theorem dL_law_292 : decode code 292 = .ok (.iadd, 1) := do_96 (rdb (p := 288) (i := 4) ch_code_288 rfl)
theorem dL_law_293 : decode code 293 = .ok (.iaload, 1) := do_46 (rdb (p := 288) (i := 5) ch_code_288 rfl)
theorem dL_law_294 : decode code 294 = .ok (.invokevirtual 22, 3) := do_182 (rdb (p := 288) (i := 6) ch_code_288 rfl) (rdb (p := 288) (i := 7) ch_code_288 rfl) (rdb (p := 288) (i := 8) ch_code_288 rfl) rfl
theorem dL_law_297 : decode code 297 = .ok (.pop, 1) := do_87 (rdb (p := 288) (i := 9) ch_code_288 rfl)
theorem dL_law_298 : decode code 298 = .ok (.aload_n 2, 1) := do_44 (rdb (p := 288) (i := 10) ch_code_288 rfl)
theorem dL_law_299 : decode code 299 = .ok (.aload_n 0, 1) := do_42 (rdb (p := 288) (i := 11) ch_code_288 rfl)
theorem dL_law_300 : decode code 300 = .ok (.iload_n 3, 1) := do_29 (rdb (p := 288) (i := 12) ch_code_288 rfl)
theorem dL_law_301 : decode code 301 = .ok (.iconst 1, 1) := do_4 (rdb (p := 288) (i := 13) ch_code_288 rfl)
theorem dL_law_302 : decode code 302 = .ok (.iadd, 1) := do_96 (rdb (p := 288) (i := 14) ch_code_288 rfl)
theorem dL_law_303 : decode code 303 = .ok (.iaload, 1) := do_46 (rdb (p := 288) (i := 15) ch_code_288 rfl)
theorem dL_law_304 : decode code 304 = .ok (.aload_n 0, 1) := do_42 (rdb (p := 288) (i := 16) ch_code_288 rfl)
theorem dL_law_305 : decode code 305 = .ok (.iload_n 3, 1) := do_29 (rdb (p := 288) (i := 17) ch_code_288 rfl)
theorem dL_law_306 : decode code 306 = .ok (.iconst 2, 1) := do_5 (rdb (p := 288) (i := 18) ch_code_288 rfl)
theorem dL_law_307 : decode code 307 = .ok (.iadd, 1) := do_96 (rdb (p := 288) (i := 19) ch_code_288 rfl)
theorem dL_law_308 : decode code 308 = .ok (.iaload, 1) := do_46 (rdb (p := 288) (i := 20) ch_code_288 rfl)
theorem dL_law_309 : decode code 309 = .ok (.aload_n 0, 1) := do_42 (rdb (p := 288) (i := 21) ch_code_288 rfl)
theorem dL_law_310 : decode code 310 = .ok (.iload_n 3, 1) := do_29 (rdb (p := 288) (i := 22) ch_code_288 rfl)
theorem dL_law_311 : decode code 311 = .ok (.iconst 3, 1) := do_6 (rdb (p := 288) (i := 23) ch_code_288 rfl)
theorem dL_law_312 : decode code 312 = .ok (.iadd, 1) := do_96 (rdb (p := 288) (i := 24) ch_code_288 rfl)
theorem dL_law_313 : decode code 313 = .ok (.iaload, 1) := do_46 (rdb (p := 288) (i := 25) ch_code_288 rfl)
theorem dL_law_314 : decode code 314 = .ok (.invokevirtual 26, 3) := do_182 (rdb (p := 288) (i := 26) ch_code_288 rfl) (rdb (p := 288) (i := 27) ch_code_288 rfl) (rdb (p := 288) (i := 28) ch_code_288 rfl) rfl
theorem dL_law_317 : decode code 317 = .ok (.pop, 1) := do_87 (rdb (p := 288) (i := 29) ch_code_288 rfl)
theorem dL_law_318 : decode code 318 = .ok (.goto 1413, 3) := do_167 (rdb (p := 288) (i := 30) ch_code_288 rfl) (rdb (p := 288) (i := 31) ch_code_288 rfl) (rdb (p := 288) (i := 32) ch_code_288 rfl) (by decide +kernel)
theorem ch_code_320 : (code.data.toList.drop 320).take 36 = [133, 43, 42, 29, 4, 96, 46, 182, 0, 27, 87, 44, 42, 29, 4, 96, 46, 182, 0, 31, 87, 167, 5, 110, 43, 42, 29, 4, 96, 46, 42, 29, 5, 96, 46, 42] := by decide +kernel
theorem dL_law_321 : decode code 321 = .ok (.aload_n 1, 1) := do_43 (rdb (p := 320) (i := 1) ch_code_320 rfl)
theorem dL_law_322 : decode code 322 = .ok (.aload_n 0, 1) := do_42 (rdb (p := 320) (i := 2) ch_code_320 rfl)
theorem dL_law_323 : decode code 323 = .ok (.iload_n 3, 1) := do_29 (rdb (p := 320) (i := 3) ch_code_320 rfl)
theorem dL_law_324 : decode code 324 = .ok (.iconst 1, 1) := do_4 (rdb (p := 320) (i := 4) ch_code_320 rfl)
theorem dL_law_325 : decode code 325 = .ok (.iadd, 1) := do_96 (rdb (p := 320) (i := 5) ch_code_320 rfl)
theorem dL_law_326 : decode code 326 = .ok (.iaload, 1) := do_46 (rdb (p := 320) (i := 6) ch_code_320 rfl)
theorem dL_law_327 : decode code 327 = .ok (.invokevirtual 27, 3) := do_182 (rdb (p := 320) (i := 7) ch_code_320 rfl) (rdb (p := 320) (i := 8) ch_code_320 rfl) (rdb (p := 320) (i := 9) ch_code_320 rfl) rfl
theorem dL_law_330 : decode code 330 = .ok (.pop, 1) := do_87 (rdb (p := 320) (i := 10) ch_code_320 rfl)
theorem dL_law_331 : decode code 331 = .ok (.aload_n 2, 1) := do_44 (rdb (p := 320) (i := 11) ch_code_320 rfl)
theorem dL_law_332 : decode code 332 = .ok (.aload_n 0, 1) := do_42 (rdb (p := 320) (i := 12) ch_code_320 rfl)
theorem dL_law_333 : decode code 333 = .ok (.iload_n 3, 1) := do_29 (rdb (p := 320) (i := 13) ch_code_320 rfl)
theorem dL_law_334 : decode code 334 = .ok (.iconst 1, 1) := do_4 (rdb (p := 320) (i := 14) ch_code_320 rfl)
theorem dL_law_335 : decode code 335 = .ok (.iadd, 1) := do_96 (rdb (p := 320) (i := 15) ch_code_320 rfl)
theorem dL_law_336 : decode code 336 = .ok (.iaload, 1) := do_46 (rdb (p := 320) (i := 16) ch_code_320 rfl)
theorem dL_law_337 : decode code 337 = .ok (.invokevirtual 31, 3) := do_182 (rdb (p := 320) (i := 17) ch_code_320 rfl) (rdb (p := 320) (i := 18) ch_code_320 rfl) (rdb (p := 320) (i := 19) ch_code_320 rfl) rfl
theorem dL_law_340 : decode code 340 = .ok (.pop, 1) := do_87 (rdb (p := 320) (i := 20) ch_code_320 rfl)
theorem dL_law_341 : decode code 341 = .ok (.goto 1390, 3) := do_167 (rdb (p := 320) (i := 21) ch_code_320 rfl) (rdb (p := 320) (i := 22) ch_code_320 rfl) (rdb (p := 320) (i := 23) ch_code_320 rfl) (by decide +kernel)
theorem dL_law_344 : decode code 344 = .ok (.aload_n 1, 1) := do_43 (rdb (p := 320) (i := 24) ch_code_320 rfl)
theorem dL_law_345 : decode code 345 = .ok (.aload_n 0, 1) := do_42 (rdb (p := 320) (i := 25) ch_code_320 rfl)
theorem dL_law_346 : decode code 346 = .ok (.iload_n 3, 1) := do_29 (rdb (p := 320) (i := 26) ch_code_320 rfl)
theorem dL_law_347 : decode code 347 = .ok (.iconst 1, 1) := do_4 (rdb (p := 320) (i := 27) ch_code_320 rfl)
theorem dL_law_348 : decode code 348 = .ok (.iadd, 1) := do_96 (rdb (p := 320) (i := 28) ch_code_320 rfl)
theorem dL_law_349 : decode code 349 = .ok (.iaload, 1) := do_46 (rdb (p := 320) (i := 29) ch_code_320 rfl)
theorem dL_law_350 : decode code 350 = .ok (.aload_n 0, 1) := do_42 (rdb (p := 320) (i := 30) ch_code_320 rfl)
theorem dL_law_351 : decode code 351 = .ok (.iload_n 3, 1) := do_29 (rdb (p := 320) (i := 31) ch_code_320 rfl)
theorem ch_code_352 : (code.data.toList.drop 352).take 36 = [5, 96, 46, 42, 29, 6, 96, 46, 182, 0, 32, 87, 44, 42, 29, 4, 96, 46, 42, 29, 5, 96, 46, 42, 29, 6, 96, 46, 182, 0, 35, 87, 167, 5, 67, 43] := by decide +kernel
theorem dL_law_352 : decode code 352 = .ok (.iconst 2, 1) := do_5 (rdb (p := 352) (i := 0) ch_code_352 rfl)
theorem dL_law_353 : decode code 353 = .ok (.iadd, 1) := do_96 (rdb (p := 352) (i := 1) ch_code_352 rfl)
theorem dL_law_354 : decode code 354 = .ok (.iaload, 1) := do_46 (rdb (p := 352) (i := 2) ch_code_352 rfl)
theorem dL_law_355 : decode code 355 = .ok (.aload_n 0, 1) := do_42 (rdb (p := 352) (i := 3) ch_code_352 rfl)
theorem dL_law_356 : decode code 356 = .ok (.iload_n 3, 1) := do_29 (rdb (p := 352) (i := 4) ch_code_352 rfl)
theorem dL_law_357 : decode code 357 = .ok (.iconst 3, 1) := do_6 (rdb (p := 352) (i := 5) ch_code_352 rfl)
theorem dL_law_358 : decode code 358 = .ok (.iadd, 1) := do_96 (rdb (p := 352) (i := 6) ch_code_352 rfl)
theorem dL_law_359 : decode code 359 = .ok (.iaload, 1) := do_46 (rdb (p := 352) (i := 7) ch_code_352 rfl)
theorem dL_law_360 : decode code 360 = .ok (.invokevirtual 32, 3) := do_182 (rdb (p := 352) (i := 8) ch_code_352 rfl) (rdb (p := 352) (i := 9) ch_code_352 rfl) (rdb (p := 352) (i := 10) ch_code_352 rfl) rfl
theorem dL_law_363 : decode code 363 = .ok (.pop, 1) := do_87 (rdb (p := 352) (i := 11) ch_code_352 rfl)
theorem dL_law_364 : decode code 364 = .ok (.aload_n 2, 1) := do_44 (rdb (p := 352) (i := 12) ch_code_352 rfl)
theorem dL_law_365 : decode code 365 = .ok (.aload_n 0, 1) := do_42 (rdb (p := 352) (i := 13) ch_code_352 rfl)
theorem dL_law_366 : decode code 366 = .ok (.iload_n 3, 1) := do_29 (rdb (p := 352) (i := 14) ch_code_352 rfl)
theorem dL_law_367 : decode code 367 = .ok (.iconst 1, 1) := do_4 (rdb (p := 352) (i := 15) ch_code_352 rfl)
theorem dL_law_368 : decode code 368 = .ok (.iadd, 1) := do_96 (rdb (p := 352) (i := 16) ch_code_352 rfl)
theorem dL_law_369 : decode code 369 = .ok (.iaload, 1) := do_46 (rdb (p := 352) (i := 17) ch_code_352 rfl)
theorem dL_law_370 : decode code 370 = .ok (.aload_n 0, 1) := do_42 (rdb (p := 352) (i := 18) ch_code_352 rfl)
theorem dL_law_371 : decode code 371 = .ok (.iload_n 3, 1) := do_29 (rdb (p := 352) (i := 19) ch_code_352 rfl)
theorem dL_law_372 : decode code 372 = .ok (.iconst 2, 1) := do_5 (rdb (p := 352) (i := 20) ch_code_352 rfl)
theorem dL_law_373 : decode code 373 = .ok (.iadd, 1) := do_96 (rdb (p := 352) (i := 21) ch_code_352 rfl)
theorem dL_law_374 : decode code 374 = .ok (.iaload, 1) := do_46 (rdb (p := 352) (i := 22) ch_code_352 rfl)
theorem dL_law_375 : decode code 375 = .ok (.aload_n 0, 1) := do_42 (rdb (p := 352) (i := 23) ch_code_352 rfl)
theorem dL_law_376 : decode code 376 = .ok (.iload_n 3, 1) := do_29 (rdb (p := 352) (i := 24) ch_code_352 rfl)
theorem dL_law_377 : decode code 377 = .ok (.iconst 3, 1) := do_6 (rdb (p := 352) (i := 25) ch_code_352 rfl)
theorem dL_law_378 : decode code 378 = .ok (.iadd, 1) := do_96 (rdb (p := 352) (i := 26) ch_code_352 rfl)
theorem dL_law_379 : decode code 379 = .ok (.iaload, 1) := do_46 (rdb (p := 352) (i := 27) ch_code_352 rfl)
theorem dL_law_380 : decode code 380 = .ok (.invokevirtual 35, 3) := do_182 (rdb (p := 352) (i := 28) ch_code_352 rfl) (rdb (p := 352) (i := 29) ch_code_352 rfl) (rdb (p := 352) (i := 30) ch_code_352 rfl) rfl
theorem dL_law_383 : decode code 383 = .ok (.pop, 1) := do_87 (rdb (p := 352) (i := 31) ch_code_352 rfl)
theorem ch_code_384 : (code.data.toList.drop 384).take 36 = [167, 5, 67, 43, 42, 29, 4, 96, 46, 182, 0, 36, 87, 44, 42, 29, 4, 96, 46, 182, 0, 39, 87, 167, 5, 44, 43, 42, 29, 4, 96, 46, 42, 29, 5, 96] := by decide +kernel
theorem dL_law_384 : decode code 384 = .ok (.goto 1347, 3) := do_167 (rdb (p := 384) (i := 0) ch_code_384 rfl) (rdb (p := 384) (i := 1) ch_code_384 rfl) (rdb (p := 384) (i := 2) ch_code_384 rfl) (by decide +kernel)
theorem dL_law_387 : decode code 387 = .ok (.aload_n 1, 1) := do_43 (rdb (p := 384) (i := 3) ch_code_384 rfl)
theorem dL_law_388 : decode code 388 = .ok (.aload_n 0, 1) := do_42 (rdb (p := 384) (i := 4) ch_code_384 rfl)
theorem dL_law_389 : decode code 389 = .ok (.iload_n 3, 1) := do_29 (rdb (p := 384) (i := 5) ch_code_384 rfl)
theorem dL_law_390 : decode code 390 = .ok (.iconst 1, 1) := do_4 (rdb (p := 384) (i := 6) ch_code_384 rfl)
theorem dL_law_391 : decode code 391 = .ok (.iadd, 1) := do_96 (rdb (p := 384) (i := 7) ch_code_384 rfl)
theorem dL_law_392 : decode code 392 = .ok (.iaload, 1) := do_46 (rdb (p := 384) (i := 8) ch_code_384 rfl)
theorem dL_law_393 : decode code 393 = .ok (.invokevirtual 36, 3) := do_182 (rdb (p := 384) (i := 9) ch_code_384 rfl) (rdb (p := 384) (i := 10) ch_code_384 rfl) (rdb (p := 384) (i := 11) ch_code_384 rfl) rfl
theorem dL_law_396 : decode code 396 = .ok (.pop, 1) := do_87 (rdb (p := 384) (i := 12) ch_code_384 rfl)
theorem dL_law_397 : decode code 397 = .ok (.aload_n 2, 1) := do_44 (rdb (p := 384) (i := 13) ch_code_384 rfl)
theorem dL_law_398 : decode code 398 = .ok (.aload_n 0, 1) := do_42 (rdb (p := 384) (i := 14) ch_code_384 rfl)
theorem dL_law_399 : decode code 399 = .ok (.iload_n 3, 1) := do_29 (rdb (p := 384) (i := 15) ch_code_384 rfl)
theorem dL_law_400 : decode code 400 = .ok (.iconst 1, 1) := do_4 (rdb (p := 384) (i := 16) ch_code_384 rfl)
theorem dL_law_401 : decode code 401 = .ok (.iadd, 1) := do_96 (rdb (p := 384) (i := 17) ch_code_384 rfl)
theorem dL_law_402 : decode code 402 = .ok (.iaload, 1) := do_46 (rdb (p := 384) (i := 18) ch_code_384 rfl)
theorem dL_law_403 : decode code 403 = .ok (.invokevirtual 39, 3) := do_182 (rdb (p := 384) (i := 19) ch_code_384 rfl) (rdb (p := 384) (i := 20) ch_code_384 rfl) (rdb (p := 384) (i := 21) ch_code_384 rfl) rfl
theorem dL_law_406 : decode code 406 = .ok (.pop, 1) := do_87 (rdb (p := 384) (i := 22) ch_code_384 rfl)
theorem dL_law_407 : decode code 407 = .ok (.goto 1324, 3) := do_167 (rdb (p := 384) (i := 23) ch_code_384 rfl) (rdb (p := 384) (i := 24) ch_code_384 rfl) (rdb (p := 384) (i := 25) ch_code_384 rfl) (by decide +kernel)
theorem dL_law_410 : decode code 410 = .ok (.aload_n 1, 1) := do_43 (rdb (p := 384) (i := 26) ch_code_384 rfl)
theorem dL_law_411 : decode code 411 = .ok (.aload_n 0, 1) := do_42 (rdb (p := 384) (i := 27) ch_code_384 rfl)
theorem dL_law_412 : decode code 412 = .ok (.iload_n 3, 1) := do_29 (rdb (p := 384) (i := 28) ch_code_384 rfl)
theorem dL_law_413 : decode code 413 = .ok (.iconst 1, 1) := do_4 (rdb (p := 384) (i := 29) ch_code_384 rfl)
theorem dL_law_414 : decode code 414 = .ok (.iadd, 1) := do_96 (rdb (p := 384) (i := 30) ch_code_384 rfl)
theorem dL_law_415 : decode code 415 = .ok (.iaload, 1) := do_46 (rdb (p := 384) (i := 31) ch_code_384 rfl)
theorem ch_code_416 : (code.data.toList.drop 416).take 36 = [42, 29, 5, 96, 46, 182, 0, 40, 87, 44, 42, 29, 4, 96, 46, 42, 29, 5, 96, 46, 182, 0, 43, 87, 167, 5, 11, 43, 42, 29, 4, 96, 46, 42, 29, 5] := by decide +kernel
theorem dL_law_416 : decode code 416 = .ok (.aload_n 0, 1) := do_42 (rdb (p := 416) (i := 0) ch_code_416 rfl)
theorem dL_law_417 : decode code 417 = .ok (.iload_n 3, 1) := do_29 (rdb (p := 416) (i := 1) ch_code_416 rfl)
theorem dL_law_418 : decode code 418 = .ok (.iconst 2, 1) := do_5 (rdb (p := 416) (i := 2) ch_code_416 rfl)
theorem dL_law_419 : decode code 419 = .ok (.iadd, 1) := do_96 (rdb (p := 416) (i := 3) ch_code_416 rfl)
theorem dL_law_420 : decode code 420 = .ok (.iaload, 1) := do_46 (rdb (p := 416) (i := 4) ch_code_416 rfl)
theorem dL_law_421 : decode code 421 = .ok (.invokevirtual 40, 3) := do_182 (rdb (p := 416) (i := 5) ch_code_416 rfl) (rdb (p := 416) (i := 6) ch_code_416 rfl) (rdb (p := 416) (i := 7) ch_code_416 rfl) rfl
theorem dL_law_424 : decode code 424 = .ok (.pop, 1) := do_87 (rdb (p := 416) (i := 8) ch_code_416 rfl)
theorem dL_law_425 : decode code 425 = .ok (.aload_n 2, 1) := do_44 (rdb (p := 416) (i := 9) ch_code_416 rfl)
theorem dL_law_426 : decode code 426 = .ok (.aload_n 0, 1) := do_42 (rdb (p := 416) (i := 10) ch_code_416 rfl)
theorem dL_law_427 : decode code 427 = .ok (.iload_n 3, 1) := do_29 (rdb (p := 416) (i := 11) ch_code_416 rfl)
theorem dL_law_428 : decode code 428 = .ok (.iconst 1, 1) := do_4 (rdb (p := 416) (i := 12) ch_code_416 rfl)
theorem dL_law_429 : decode code 429 = .ok (.iadd, 1) := do_96 (rdb (p := 416) (i := 13) ch_code_416 rfl)
theorem dL_law_430 : decode code 430 = .ok (.iaload, 1) := do_46 (rdb (p := 416) (i := 14) ch_code_416 rfl)
theorem dL_law_431 : decode code 431 = .ok (.aload_n 0, 1) := do_42 (rdb (p := 416) (i := 15) ch_code_416 rfl)
theorem dL_law_432 : decode code 432 = .ok (.iload_n 3, 1) := do_29 (rdb (p := 416) (i := 16) ch_code_416 rfl)
theorem dL_law_433 : decode code 433 = .ok (.iconst 2, 1) := do_5 (rdb (p := 416) (i := 17) ch_code_416 rfl)
theorem dL_law_434 : decode code 434 = .ok (.iadd, 1) := do_96 (rdb (p := 416) (i := 18) ch_code_416 rfl)
theorem dL_law_435 : decode code 435 = .ok (.iaload, 1) := do_46 (rdb (p := 416) (i := 19) ch_code_416 rfl)
theorem dL_law_436 : decode code 436 = .ok (.invokevirtual 43, 3) := do_182 (rdb (p := 416) (i := 20) ch_code_416 rfl) (rdb (p := 416) (i := 21) ch_code_416 rfl) (rdb (p := 416) (i := 22) ch_code_416 rfl) rfl
theorem dL_law_439 : decode code 439 = .ok (.pop, 1) := do_87 (rdb (p := 416) (i := 23) ch_code_416 rfl)
theorem dL_law_440 : decode code 440 = .ok (.goto 1291, 3) := do_167 (rdb (p := 416) (i := 24) ch_code_416 rfl) (rdb (p := 416) (i := 25) ch_code_416 rfl) (rdb (p := 416) (i := 26) ch_code_416 rfl) (by decide +kernel)
theorem dL_law_443 : decode code 443 = .ok (.aload_n 1, 1) := do_43 (rdb (p := 416) (i := 27) ch_code_416 rfl)
theorem dL_law_444 : decode code 444 = .ok (.aload_n 0, 1) := do_42 (rdb (p := 416) (i := 28) ch_code_416 rfl)
theorem dL_law_445 : decode code 445 = .ok (.iload_n 3, 1) := do_29 (rdb (p := 416) (i := 29) ch_code_416 rfl)
theorem dL_law_446 : decode code 446 = .ok (.iconst 1, 1) := do_4 (rdb (p := 416) (i := 30) ch_code_416 rfl)
theorem dL_law_447 : decode code 447 = .ok (.iadd, 1) := do_96 (rdb (p := 416) (i := 31) ch_code_416 rfl)
theorem ch_code_448 : (code.data.toList.drop 448).take 36 = [46, 42, 29, 5, 96, 46, 182, 0, 44, 87, 44, 42, 29, 4, 96, 46, 42, 29, 5, 96, 46, 182, 0, 47, 87, 167, 4, 234, 43, 42, 29, 4, 96, 46, 42, 29] := by decide +kernel
theorem dL_law_448 : decode code 448 = .ok (.iaload, 1) := do_46 (rdb (p := 448) (i := 0) ch_code_448 rfl)
theorem dL_law_449 : decode code 449 = .ok (.aload_n 0, 1) := do_42 (rdb (p := 448) (i := 1) ch_code_448 rfl)
theorem dL_law_450 : decode code 450 = .ok (.iload_n 3, 1) := do_29 (rdb (p := 448) (i := 2) ch_code_448 rfl)
theorem dL_law_451 : decode code 451 = .ok (.iconst 2, 1) := do_5 (rdb (p := 448) (i := 3) ch_code_448 rfl)
theorem dL_law_452 : decode code 452 = .ok (.iadd, 1) := do_96 (rdb (p := 448) (i := 4) ch_code_448 rfl)
theorem dL_law_453 : decode code 453 = .ok (.iaload, 1) := do_46 (rdb (p := 448) (i := 5) ch_code_448 rfl)
theorem dL_law_454 : decode code 454 = .ok (.invokevirtual 44, 3) := do_182 (rdb (p := 448) (i := 6) ch_code_448 rfl) (rdb (p := 448) (i := 7) ch_code_448 rfl) (rdb (p := 448) (i := 8) ch_code_448 rfl) rfl
theorem dL_law_457 : decode code 457 = .ok (.pop, 1) := do_87 (rdb (p := 448) (i := 9) ch_code_448 rfl)
theorem dL_law_458 : decode code 458 = .ok (.aload_n 2, 1) := do_44 (rdb (p := 448) (i := 10) ch_code_448 rfl)
theorem dL_law_459 : decode code 459 = .ok (.aload_n 0, 1) := do_42 (rdb (p := 448) (i := 11) ch_code_448 rfl)
theorem dL_law_460 : decode code 460 = .ok (.iload_n 3, 1) := do_29 (rdb (p := 448) (i := 12) ch_code_448 rfl)
theorem dL_law_461 : decode code 461 = .ok (.iconst 1, 1) := do_4 (rdb (p := 448) (i := 13) ch_code_448 rfl)
theorem dL_law_462 : decode code 462 = .ok (.iadd, 1) := do_96 (rdb (p := 448) (i := 14) ch_code_448 rfl)
theorem dL_law_463 : decode code 463 = .ok (.iaload, 1) := do_46 (rdb (p := 448) (i := 15) ch_code_448 rfl)
theorem dL_law_464 : decode code 464 = .ok (.aload_n 0, 1) := do_42 (rdb (p := 448) (i := 16) ch_code_448 rfl)
theorem dL_law_465 : decode code 465 = .ok (.iload_n 3, 1) := do_29 (rdb (p := 448) (i := 17) ch_code_448 rfl)
theorem dL_law_466 : decode code 466 = .ok (.iconst 2, 1) := do_5 (rdb (p := 448) (i := 18) ch_code_448 rfl)
theorem dL_law_467 : decode code 467 = .ok (.iadd, 1) := do_96 (rdb (p := 448) (i := 19) ch_code_448 rfl)
theorem dL_law_468 : decode code 468 = .ok (.iaload, 1) := do_46 (rdb (p := 448) (i := 20) ch_code_448 rfl)
theorem dL_law_469 : decode code 469 = .ok (.invokevirtual 47, 3) := do_182 (rdb (p := 448) (i := 21) ch_code_448 rfl) (rdb (p := 448) (i := 22) ch_code_448 rfl) (rdb (p := 448) (i := 23) ch_code_448 rfl) rfl
theorem dL_law_472 : decode code 472 = .ok (.pop, 1) := do_87 (rdb (p := 448) (i := 24) ch_code_448 rfl)
theorem dL_law_473 : decode code 473 = .ok (.goto 1258, 3) := do_167 (rdb (p := 448) (i := 25) ch_code_448 rfl) (rdb (p := 448) (i := 26) ch_code_448 rfl) (rdb (p := 448) (i := 27) ch_code_448 rfl) (by decide +kernel)
theorem dL_law_476 : decode code 476 = .ok (.aload_n 1, 1) := do_43 (rdb (p := 448) (i := 28) ch_code_448 rfl)
theorem dL_law_477 : decode code 477 = .ok (.aload_n 0, 1) := do_42 (rdb (p := 448) (i := 29) ch_code_448 rfl)
theorem dL_law_478 : decode code 478 = .ok (.iload_n 3, 1) := do_29 (rdb (p := 448) (i := 30) ch_code_448 rfl)
theorem dL_law_479 : decode code 479 = .ok (.iconst 1, 1) := do_4 (rdb (p := 448) (i := 31) ch_code_448 rfl)
theorem ch_code_480 : (code.data.toList.drop 480).take 36 = [96, 46, 42, 29, 5, 96, 46, 42, 29, 6, 96, 46, 182, 0, 48, 87, 44, 42, 29, 4, 96, 46, 42, 29, 5, 96, 46, 42, 29, 6, 96, 46, 182, 0, 51, 87] := by decide +kernel
theorem dL_law_480 : decode code 480 = .ok (.iadd, 1) := do_96 (rdb (p := 480) (i := 0) ch_code_480 rfl)
theorem dL_law_481 : decode code 481 = .ok (.iaload, 1) := do_46 (rdb (p := 480) (i := 1) ch_code_480 rfl)
theorem dL_law_482 : decode code 482 = .ok (.aload_n 0, 1) := do_42 (rdb (p := 480) (i := 2) ch_code_480 rfl)
theorem dL_law_483 : decode code 483 = .ok (.iload_n 3, 1) := do_29 (rdb (p := 480) (i := 3) ch_code_480 rfl)
theorem dL_law_484 : decode code 484 = .ok (.iconst 2, 1) := do_5 (rdb (p := 480) (i := 4) ch_code_480 rfl)
theorem dL_law_485 : decode code 485 = .ok (.iadd, 1) := do_96 (rdb (p := 480) (i := 5) ch_code_480 rfl)
theorem dL_law_486 : decode code 486 = .ok (.iaload, 1) := do_46 (rdb (p := 480) (i := 6) ch_code_480 rfl)
theorem dL_law_487 : decode code 487 = .ok (.aload_n 0, 1) := do_42 (rdb (p := 480) (i := 7) ch_code_480 rfl)
theorem dL_law_488 : decode code 488 = .ok (.iload_n 3, 1) := do_29 (rdb (p := 480) (i := 8) ch_code_480 rfl)
theorem dL_law_489 : decode code 489 = .ok (.iconst 3, 1) := do_6 (rdb (p := 480) (i := 9) ch_code_480 rfl)
theorem dL_law_490 : decode code 490 = .ok (.iadd, 1) := do_96 (rdb (p := 480) (i := 10) ch_code_480 rfl)
theorem dL_law_491 : decode code 491 = .ok (.iaload, 1) := do_46 (rdb (p := 480) (i := 11) ch_code_480 rfl)
theorem dL_law_492 : decode code 492 = .ok (.invokevirtual 48, 3) := do_182 (rdb (p := 480) (i := 12) ch_code_480 rfl) (rdb (p := 480) (i := 13) ch_code_480 rfl) (rdb (p := 480) (i := 14) ch_code_480 rfl) rfl
theorem dL_law_495 : decode code 495 = .ok (.pop, 1) := do_87 (rdb (p := 480) (i := 15) ch_code_480 rfl)
theorem dL_law_496 : decode code 496 = .ok (.aload_n 2, 1) := do_44 (rdb (p := 480) (i := 16) ch_code_480 rfl)
theorem dL_law_497 : decode code 497 = .ok (.aload_n 0, 1) := do_42 (rdb (p := 480) (i := 17) ch_code_480 rfl)
theorem dL_law_498 : decode code 498 = .ok (.iload_n 3, 1) := do_29 (rdb (p := 480) (i := 18) ch_code_480 rfl)
theorem dL_law_499 : decode code 499 = .ok (.iconst 1, 1) := do_4 (rdb (p := 480) (i := 19) ch_code_480 rfl)
theorem dL_law_500 : decode code 500 = .ok (.iadd, 1) := do_96 (rdb (p := 480) (i := 20) ch_code_480 rfl)
theorem dL_law_501 : decode code 501 = .ok (.iaload, 1) := do_46 (rdb (p := 480) (i := 21) ch_code_480 rfl)
theorem dL_law_502 : decode code 502 = .ok (.aload_n 0, 1) := do_42 (rdb (p := 480) (i := 22) ch_code_480 rfl)
theorem dL_law_503 : decode code 503 = .ok (.iload_n 3, 1) := do_29 (rdb (p := 480) (i := 23) ch_code_480 rfl)
theorem dL_law_504 : decode code 504 = .ok (.iconst 2, 1) := do_5 (rdb (p := 480) (i := 24) ch_code_480 rfl)
theorem dL_law_505 : decode code 505 = .ok (.iadd, 1) := do_96 (rdb (p := 480) (i := 25) ch_code_480 rfl)
theorem dL_law_506 : decode code 506 = .ok (.iaload, 1) := do_46 (rdb (p := 480) (i := 26) ch_code_480 rfl)
theorem dL_law_507 : decode code 507 = .ok (.aload_n 0, 1) := do_42 (rdb (p := 480) (i := 27) ch_code_480 rfl)
theorem dL_law_508 : decode code 508 = .ok (.iload_n 3, 1) := do_29 (rdb (p := 480) (i := 28) ch_code_480 rfl)
theorem dL_law_509 : decode code 509 = .ok (.iconst 3, 1) := do_6 (rdb (p := 480) (i := 29) ch_code_480 rfl)
theorem dL_law_510 : decode code 510 = .ok (.iadd, 1) := do_96 (rdb (p := 480) (i := 30) ch_code_480 rfl)
theorem dL_law_511 : decode code 511 = .ok (.iaload, 1) := do_46 (rdb (p := 480) (i := 31) ch_code_480 rfl)
theorem ch_code_512 : (code.data.toList.drop 512).take 36 = [182, 0, 51, 87, 167, 4, 191, 43, 42, 29, 4, 96, 46, 42, 29, 5, 96, 46, 182, 0, 52, 87, 44, 42, 29, 4, 96, 46, 42, 29, 5, 96, 46, 182, 0, 55] := by decide +kernel
theorem dL_law_512 : decode code 512 = .ok (.invokevirtual 51, 3) := do_182 (rdb (p := 512) (i := 0) ch_code_512 rfl) (rdb (p := 512) (i := 1) ch_code_512 rfl) (rdb (p := 512) (i := 2) ch_code_512 rfl) rfl
theorem dL_law_515 : decode code 515 = .ok (.pop, 1) := do_87 (rdb (p := 512) (i := 3) ch_code_512 rfl)
theorem dL_law_516 : decode code 516 = .ok (.goto 1215, 3) := do_167 (rdb (p := 512) (i := 4) ch_code_512 rfl) (rdb (p := 512) (i := 5) ch_code_512 rfl) (rdb (p := 512) (i := 6) ch_code_512 rfl) (by decide +kernel)
theorem dL_law_519 : decode code 519 = .ok (.aload_n 1, 1) := do_43 (rdb (p := 512) (i := 7) ch_code_512 rfl)
theorem dL_law_520 : decode code 520 = .ok (.aload_n 0, 1) := do_42 (rdb (p := 512) (i := 8) ch_code_512 rfl)
theorem dL_law_521 : decode code 521 = .ok (.iload_n 3, 1) := do_29 (rdb (p := 512) (i := 9) ch_code_512 rfl)
theorem dL_law_522 : decode code 522 = .ok (.iconst 1, 1) := do_4 (rdb (p := 512) (i := 10) ch_code_512 rfl)
theorem dL_law_523 : decode code 523 = .ok (.iadd, 1) := do_96 (rdb (p := 512) (i := 11) ch_code_512 rfl)
theorem dL_law_524 : decode code 524 = .ok (.iaload, 1) := do_46 (rdb (p := 512) (i := 12) ch_code_512 rfl)
theorem dL_law_525 : decode code 525 = .ok (.aload_n 0, 1) := do_42 (rdb (p := 512) (i := 13) ch_code_512 rfl)
theorem dL_law_526 : decode code 526 = .ok (.iload_n 3, 1) := do_29 (rdb (p := 512) (i := 14) ch_code_512 rfl)
theorem dL_law_527 : decode code 527 = .ok (.iconst 2, 1) := do_5 (rdb (p := 512) (i := 15) ch_code_512 rfl)
theorem dL_law_528 : decode code 528 = .ok (.iadd, 1) := do_96 (rdb (p := 512) (i := 16) ch_code_512 rfl)
theorem dL_law_529 : decode code 529 = .ok (.iaload, 1) := do_46 (rdb (p := 512) (i := 17) ch_code_512 rfl)
theorem dL_law_530 : decode code 530 = .ok (.invokevirtual 52, 3) := do_182 (rdb (p := 512) (i := 18) ch_code_512 rfl) (rdb (p := 512) (i := 19) ch_code_512 rfl) (rdb (p := 512) (i := 20) ch_code_512 rfl) rfl
theorem dL_law_533 : decode code 533 = .ok (.pop, 1) := do_87 (rdb (p := 512) (i := 21) ch_code_512 rfl)
theorem dL_law_534 : decode code 534 = .ok (.aload_n 2, 1) := do_44 (rdb (p := 512) (i := 22) ch_code_512 rfl)
theorem dL_law_535 : decode code 535 = .ok (.aload_n 0, 1) := do_42 (rdb (p := 512) (i := 23) ch_code_512 rfl)
theorem dL_law_536 : decode code 536 = .ok (.iload_n 3, 1) := do_29 (rdb (p := 512) (i := 24) ch_code_512 rfl)
theorem dL_law_537 : decode code 537 = .ok (.iconst 1, 1) := do_4 (rdb (p := 512) (i := 25) ch_code_512 rfl)
theorem dL_law_538 : decode code 538 = .ok (.iadd, 1) := do_96 (rdb (p := 512) (i := 26) ch_code_512 rfl)
theorem dL_law_539 : decode code 539 = .ok (.iaload, 1) := do_46 (rdb (p := 512) (i := 27) ch_code_512 rfl)
theorem dL_law_540 : decode code 540 = .ok (.aload_n 0, 1) := do_42 (rdb (p := 512) (i := 28) ch_code_512 rfl)
theorem dL_law_541 : decode code 541 = .ok (.iload_n 3, 1) := do_29 (rdb (p := 512) (i := 29) ch_code_512 rfl)
theorem dL_law_542 : decode code 542 = .ok (.iconst 2, 1) := do_5 (rdb (p := 512) (i := 30) ch_code_512 rfl)
theorem dL_law_543 : decode code 543 = .ok (.iadd, 1) := do_96 (rdb (p := 512) (i := 31) ch_code_512 rfl)
theorem ch_code_544 : (code.data.toList.drop 544).take 36 = [46, 182, 0, 55, 87, 167, 4, 158, 43, 42, 29, 4, 96, 46, 42, 29, 5, 96, 46, 182, 0, 56, 87, 44, 42, 29, 4, 96, 46, 42, 29, 5, 96, 46, 182, 0] := by decide +kernel
theorem dL_law_544 : decode code 544 = .ok (.iaload, 1) := do_46 (rdb (p := 544) (i := 0) ch_code_544 rfl)
theorem dL_law_545 : decode code 545 = .ok (.invokevirtual 55, 3) := do_182 (rdb (p := 544) (i := 1) ch_code_544 rfl) (rdb (p := 544) (i := 2) ch_code_544 rfl) (rdb (p := 544) (i := 3) ch_code_544 rfl) rfl
theorem dL_law_548 : decode code 548 = .ok (.pop, 1) := do_87 (rdb (p := 544) (i := 4) ch_code_544 rfl)
theorem dL_law_549 : decode code 549 = .ok (.goto 1182, 3) := do_167 (rdb (p := 544) (i := 5) ch_code_544 rfl) (rdb (p := 544) (i := 6) ch_code_544 rfl) (rdb (p := 544) (i := 7) ch_code_544 rfl) (by decide +kernel)
theorem dL_law_552 : decode code 552 = .ok (.aload_n 1, 1) := do_43 (rdb (p := 544) (i := 8) ch_code_544 rfl)
theorem dL_law_553 : decode code 553 = .ok (.aload_n 0, 1) := do_42 (rdb (p := 544) (i := 9) ch_code_544 rfl)
theorem dL_law_554 : decode code 554 = .ok (.iload_n 3, 1) := do_29 (rdb (p := 544) (i := 10) ch_code_544 rfl)
theorem dL_law_555 : decode code 555 = .ok (.iconst 1, 1) := do_4 (rdb (p := 544) (i := 11) ch_code_544 rfl)
theorem dL_law_556 : decode code 556 = .ok (.iadd, 1) := do_96 (rdb (p := 544) (i := 12) ch_code_544 rfl)
theorem dL_law_557 : decode code 557 = .ok (.iaload, 1) := do_46 (rdb (p := 544) (i := 13) ch_code_544 rfl)
theorem dL_law_558 : decode code 558 = .ok (.aload_n 0, 1) := do_42 (rdb (p := 544) (i := 14) ch_code_544 rfl)
theorem dL_law_559 : decode code 559 = .ok (.iload_n 3, 1) := do_29 (rdb (p := 544) (i := 15) ch_code_544 rfl)
theorem dL_law_560 : decode code 560 = .ok (.iconst 2, 1) := do_5 (rdb (p := 544) (i := 16) ch_code_544 rfl)
theorem dL_law_561 : decode code 561 = .ok (.iadd, 1) := do_96 (rdb (p := 544) (i := 17) ch_code_544 rfl)
theorem dL_law_562 : decode code 562 = .ok (.iaload, 1) := do_46 (rdb (p := 544) (i := 18) ch_code_544 rfl)
theorem dL_law_563 : decode code 563 = .ok (.invokevirtual 56, 3) := do_182 (rdb (p := 544) (i := 19) ch_code_544 rfl) (rdb (p := 544) (i := 20) ch_code_544 rfl) (rdb (p := 544) (i := 21) ch_code_544 rfl) rfl
theorem dL_law_566 : decode code 566 = .ok (.pop, 1) := do_87 (rdb (p := 544) (i := 22) ch_code_544 rfl)
theorem dL_law_567 : decode code 567 = .ok (.aload_n 2, 1) := do_44 (rdb (p := 544) (i := 23) ch_code_544 rfl)
theorem dL_law_568 : decode code 568 = .ok (.aload_n 0, 1) := do_42 (rdb (p := 544) (i := 24) ch_code_544 rfl)
theorem dL_law_569 : decode code 569 = .ok (.iload_n 3, 1) := do_29 (rdb (p := 544) (i := 25) ch_code_544 rfl)
theorem dL_law_570 : decode code 570 = .ok (.iconst 1, 1) := do_4 (rdb (p := 544) (i := 26) ch_code_544 rfl)
theorem dL_law_571 : decode code 571 = .ok (.iadd, 1) := do_96 (rdb (p := 544) (i := 27) ch_code_544 rfl)
theorem dL_law_572 : decode code 572 = .ok (.iaload, 1) := do_46 (rdb (p := 544) (i := 28) ch_code_544 rfl)
theorem dL_law_573 : decode code 573 = .ok (.aload_n 0, 1) := do_42 (rdb (p := 544) (i := 29) ch_code_544 rfl)
theorem dL_law_574 : decode code 574 = .ok (.iload_n 3, 1) := do_29 (rdb (p := 544) (i := 30) ch_code_544 rfl)
theorem dL_law_575 : decode code 575 = .ok (.iconst 2, 1) := do_5 (rdb (p := 544) (i := 31) ch_code_544 rfl)
theorem ch_code_576 : (code.data.toList.drop 576).take 36 = [96, 46, 182, 0, 59, 87, 167, 4, 125, 43, 42, 29, 4, 96, 46, 42, 29, 5, 96, 46, 42, 29, 6, 96, 46, 42, 29, 7, 96, 46, 182, 0, 60, 87, 44, 42] := by decide +kernel
theorem dL_law_576 : decode code 576 = .ok (.iadd, 1) := do_96 (rdb (p := 576) (i := 0) ch_code_576 rfl)
theorem dL_law_577 : decode code 577 = .ok (.iaload, 1) := do_46 (rdb (p := 576) (i := 1) ch_code_576 rfl)
theorem dL_law_578 : decode code 578 = .ok (.invokevirtual 59, 3) := do_182 (rdb (p := 576) (i := 2) ch_code_576 rfl) (rdb (p := 576) (i := 3) ch_code_576 rfl) (rdb (p := 576) (i := 4) ch_code_576 rfl) rfl
theorem dL_law_581 : decode code 581 = .ok (.pop, 1) := do_87 (rdb (p := 576) (i := 5) ch_code_576 rfl)
theorem dL_law_582 : decode code 582 = .ok (.goto 1149, 3) := do_167 (rdb (p := 576) (i := 6) ch_code_576 rfl) (rdb (p := 576) (i := 7) ch_code_576 rfl) (rdb (p := 576) (i := 8) ch_code_576 rfl) (by decide +kernel)
theorem dL_law_585 : decode code 585 = .ok (.aload_n 1, 1) := do_43 (rdb (p := 576) (i := 9) ch_code_576 rfl)
theorem dL_law_586 : decode code 586 = .ok (.aload_n 0, 1) := do_42 (rdb (p := 576) (i := 10) ch_code_576 rfl)
theorem dL_law_587 : decode code 587 = .ok (.iload_n 3, 1) := do_29 (rdb (p := 576) (i := 11) ch_code_576 rfl)
theorem dL_law_588 : decode code 588 = .ok (.iconst 1, 1) := do_4 (rdb (p := 576) (i := 12) ch_code_576 rfl)
theorem dL_law_589 : decode code 589 = .ok (.iadd, 1) := do_96 (rdb (p := 576) (i := 13) ch_code_576 rfl)
theorem dL_law_590 : decode code 590 = .ok (.iaload, 1) := do_46 (rdb (p := 576) (i := 14) ch_code_576 rfl)
theorem dL_law_591 : decode code 591 = .ok (.aload_n 0, 1) := do_42 (rdb (p := 576) (i := 15) ch_code_576 rfl)
theorem dL_law_592 : decode code 592 = .ok (.iload_n 3, 1) := do_29 (rdb (p := 576) (i := 16) ch_code_576 rfl)
theorem dL_law_593 : decode code 593 = .ok (.iconst 2, 1) := do_5 (rdb (p := 576) (i := 17) ch_code_576 rfl)
theorem dL_law_594 : decode code 594 = .ok (.iadd, 1) := do_96 (rdb (p := 576) (i := 18) ch_code_576 rfl)
theorem dL_law_595 : decode code 595 = .ok (.iaload, 1) := do_46 (rdb (p := 576) (i := 19) ch_code_576 rfl)
theorem dL_law_596 : decode code 596 = .ok (.aload_n 0, 1) := do_42 (rdb (p := 576) (i := 20) ch_code_576 rfl)
theorem dL_law_597 : decode code 597 = .ok (.iload_n 3, 1) := do_29 (rdb (p := 576) (i := 21) ch_code_576 rfl)
theorem dL_law_598 : decode code 598 = .ok (.iconst 3, 1) := do_6 (rdb (p := 576) (i := 22) ch_code_576 rfl)
theorem dL_law_599 : decode code 599 = .ok (.iadd, 1) := do_96 (rdb (p := 576) (i := 23) ch_code_576 rfl)
theorem dL_law_600 : decode code 600 = .ok (.iaload, 1) := do_46 (rdb (p := 576) (i := 24) ch_code_576 rfl)
theorem dL_law_601 : decode code 601 = .ok (.aload_n 0, 1) := do_42 (rdb (p := 576) (i := 25) ch_code_576 rfl)
theorem dL_law_602 : decode code 602 = .ok (.iload_n 3, 1) := do_29 (rdb (p := 576) (i := 26) ch_code_576 rfl)
theorem dL_law_603 : decode code 603 = .ok (.iconst 4, 1) := do_7 (rdb (p := 576) (i := 27) ch_code_576 rfl)
theorem dL_law_604 : decode code 604 = .ok (.iadd, 1) := do_96 (rdb (p := 576) (i := 28) ch_code_576 rfl)
theorem dL_law_605 : decode code 605 = .ok (.iaload, 1) := do_46 (rdb (p := 576) (i := 29) ch_code_576 rfl)
theorem dL_law_606 : decode code 606 = .ok (.invokevirtual 60, 3) := do_182 (rdb (p := 576) (i := 30) ch_code_576 rfl) (rdb (p := 576) (i := 31) ch_code_576 rfl) (rdb (p := 576) (i := 32) ch_code_576 rfl) rfl
theorem ch_code_608 : (code.data.toList.drop 608).take 36 = [60, 87, 44, 42, 29, 4, 96, 46, 42, 29, 5, 96, 46, 42, 29, 6, 96, 46, 42, 29, 7, 96, 46, 182, 0, 64, 87, 167, 4, 72, 43, 42, 29, 4, 96, 46] := by decide +kernel
theorem dL_law_609 : decode code 609 = .ok (.pop, 1) := do_87 (rdb (p := 608) (i := 1) ch_code_608 rfl)
theorem dL_law_610 : decode code 610 = .ok (.aload_n 2, 1) := do_44 (rdb (p := 608) (i := 2) ch_code_608 rfl)
theorem dL_law_611 : decode code 611 = .ok (.aload_n 0, 1) := do_42 (rdb (p := 608) (i := 3) ch_code_608 rfl)
theorem dL_law_612 : decode code 612 = .ok (.iload_n 3, 1) := do_29 (rdb (p := 608) (i := 4) ch_code_608 rfl)
theorem dL_law_613 : decode code 613 = .ok (.iconst 1, 1) := do_4 (rdb (p := 608) (i := 5) ch_code_608 rfl)
theorem dL_law_614 : decode code 614 = .ok (.iadd, 1) := do_96 (rdb (p := 608) (i := 6) ch_code_608 rfl)
theorem dL_law_615 : decode code 615 = .ok (.iaload, 1) := do_46 (rdb (p := 608) (i := 7) ch_code_608 rfl)
theorem dL_law_616 : decode code 616 = .ok (.aload_n 0, 1) := do_42 (rdb (p := 608) (i := 8) ch_code_608 rfl)
theorem dL_law_617 : decode code 617 = .ok (.iload_n 3, 1) := do_29 (rdb (p := 608) (i := 9) ch_code_608 rfl)
theorem dL_law_618 : decode code 618 = .ok (.iconst 2, 1) := do_5 (rdb (p := 608) (i := 10) ch_code_608 rfl)
theorem dL_law_619 : decode code 619 = .ok (.iadd, 1) := do_96 (rdb (p := 608) (i := 11) ch_code_608 rfl)
theorem dL_law_620 : decode code 620 = .ok (.iaload, 1) := do_46 (rdb (p := 608) (i := 12) ch_code_608 rfl)
theorem dL_law_621 : decode code 621 = .ok (.aload_n 0, 1) := do_42 (rdb (p := 608) (i := 13) ch_code_608 rfl)
theorem dL_law_622 : decode code 622 = .ok (.iload_n 3, 1) := do_29 (rdb (p := 608) (i := 14) ch_code_608 rfl)
theorem dL_law_623 : decode code 623 = .ok (.iconst 3, 1) := do_6 (rdb (p := 608) (i := 15) ch_code_608 rfl)
theorem dL_law_624 : decode code 624 = .ok (.iadd, 1) := do_96 (rdb (p := 608) (i := 16) ch_code_608 rfl)
theorem dL_law_625 : decode code 625 = .ok (.iaload, 1) := do_46 (rdb (p := 608) (i := 17) ch_code_608 rfl)
theorem dL_law_626 : decode code 626 = .ok (.aload_n 0, 1) := do_42 (rdb (p := 608) (i := 18) ch_code_608 rfl)
theorem dL_law_627 : decode code 627 = .ok (.iload_n 3, 1) := do_29 (rdb (p := 608) (i := 19) ch_code_608 rfl)
theorem dL_law_628 : decode code 628 = .ok (.iconst 4, 1) := do_7 (rdb (p := 608) (i := 20) ch_code_608 rfl)
theorem dL_law_629 : decode code 629 = .ok (.iadd, 1) := do_96 (rdb (p := 608) (i := 21) ch_code_608 rfl)
theorem dL_law_630 : decode code 630 = .ok (.iaload, 1) := do_46 (rdb (p := 608) (i := 22) ch_code_608 rfl)
theorem dL_law_631 : decode code 631 = .ok (.invokevirtual 64, 3) := do_182 (rdb (p := 608) (i := 23) ch_code_608 rfl) (rdb (p := 608) (i := 24) ch_code_608 rfl) (rdb (p := 608) (i := 25) ch_code_608 rfl) rfl
theorem dL_law_634 : decode code 634 = .ok (.pop, 1) := do_87 (rdb (p := 608) (i := 26) ch_code_608 rfl)
theorem dL_law_635 : decode code 635 = .ok (.goto 1096, 3) := do_167 (rdb (p := 608) (i := 27) ch_code_608 rfl) (rdb (p := 608) (i := 28) ch_code_608 rfl) (rdb (p := 608) (i := 29) ch_code_608 rfl) (by decide +kernel)
theorem dL_law_638 : decode code 638 = .ok (.aload_n 1, 1) := do_43 (rdb (p := 608) (i := 30) ch_code_608 rfl)
theorem dL_law_639 : decode code 639 = .ok (.aload_n 0, 1) := do_42 (rdb (p := 608) (i := 31) ch_code_608 rfl)
theorem ch_code_640 : (code.data.toList.drop 640).take 36 = [29, 4, 96, 46, 42, 29, 5, 96, 46, 182, 0, 65, 87, 44, 42, 29, 4, 96, 46, 42, 29, 5, 96, 46, 182, 0, 68, 87, 167, 4, 39, 43, 42, 29, 4, 96] := by decide +kernel
theorem dL_law_640 : decode code 640 = .ok (.iload_n 3, 1) := do_29 (rdb (p := 640) (i := 0) ch_code_640 rfl)
theorem dL_law_641 : decode code 641 = .ok (.iconst 1, 1) := do_4 (rdb (p := 640) (i := 1) ch_code_640 rfl)
theorem dL_law_642 : decode code 642 = .ok (.iadd, 1) := do_96 (rdb (p := 640) (i := 2) ch_code_640 rfl)
theorem dL_law_643 : decode code 643 = .ok (.iaload, 1) := do_46 (rdb (p := 640) (i := 3) ch_code_640 rfl)
theorem dL_law_644 : decode code 644 = .ok (.aload_n 0, 1) := do_42 (rdb (p := 640) (i := 4) ch_code_640 rfl)
theorem dL_law_645 : decode code 645 = .ok (.iload_n 3, 1) := do_29 (rdb (p := 640) (i := 5) ch_code_640 rfl)
theorem dL_law_646 : decode code 646 = .ok (.iconst 2, 1) := do_5 (rdb (p := 640) (i := 6) ch_code_640 rfl)
theorem dL_law_647 : decode code 647 = .ok (.iadd, 1) := do_96 (rdb (p := 640) (i := 7) ch_code_640 rfl)
theorem dL_law_648 : decode code 648 = .ok (.iaload, 1) := do_46 (rdb (p := 640) (i := 8) ch_code_640 rfl)
theorem dL_law_649 : decode code 649 = .ok (.invokevirtual 65, 3) := do_182 (rdb (p := 640) (i := 9) ch_code_640 rfl) (rdb (p := 640) (i := 10) ch_code_640 rfl) (rdb (p := 640) (i := 11) ch_code_640 rfl) rfl
theorem dL_law_652 : decode code 652 = .ok (.pop, 1) := do_87 (rdb (p := 640) (i := 12) ch_code_640 rfl)
theorem dL_law_653 : decode code 653 = .ok (.aload_n 2, 1) := do_44 (rdb (p := 640) (i := 13) ch_code_640 rfl)
theorem dL_law_654 : decode code 654 = .ok (.aload_n 0, 1) := do_42 (rdb (p := 640) (i := 14) ch_code_640 rfl)
theorem dL_law_655 : decode code 655 = .ok (.iload_n 3, 1) := do_29 (rdb (p := 640) (i := 15) ch_code_640 rfl)
theorem dL_law_656 : decode code 656 = .ok (.iconst 1, 1) := do_4 (rdb (p := 640) (i := 16) ch_code_640 rfl)
theorem dL_law_657 : decode code 657 = .ok (.iadd, 1) := do_96 (rdb (p := 640) (i := 17) ch_code_640 rfl)
theorem dL_law_658 : decode code 658 = .ok (.iaload, 1) := do_46 (rdb (p := 640) (i := 18) ch_code_640 rfl)
theorem dL_law_659 : decode code 659 = .ok (.aload_n 0, 1) := do_42 (rdb (p := 640) (i := 19) ch_code_640 rfl)
theorem dL_law_660 : decode code 660 = .ok (.iload_n 3, 1) := do_29 (rdb (p := 640) (i := 20) ch_code_640 rfl)
theorem dL_law_661 : decode code 661 = .ok (.iconst 2, 1) := do_5 (rdb (p := 640) (i := 21) ch_code_640 rfl)
theorem dL_law_662 : decode code 662 = .ok (.iadd, 1) := do_96 (rdb (p := 640) (i := 22) ch_code_640 rfl)
theorem dL_law_663 : decode code 663 = .ok (.iaload, 1) := do_46 (rdb (p := 640) (i := 23) ch_code_640 rfl)
theorem dL_law_664 : decode code 664 = .ok (.invokevirtual 68, 3) := do_182 (rdb (p := 640) (i := 24) ch_code_640 rfl) (rdb (p := 640) (i := 25) ch_code_640 rfl) (rdb (p := 640) (i := 26) ch_code_640 rfl) rfl
theorem dL_law_667 : decode code 667 = .ok (.pop, 1) := do_87 (rdb (p := 640) (i := 27) ch_code_640 rfl)
theorem dL_law_668 : decode code 668 = .ok (.goto 1063, 3) := do_167 (rdb (p := 640) (i := 28) ch_code_640 rfl) (rdb (p := 640) (i := 29) ch_code_640 rfl) (rdb (p := 640) (i := 30) ch_code_640 rfl) (by decide +kernel)
theorem dL_law_671 : decode code 671 = .ok (.aload_n 1, 1) := do_43 (rdb (p := 640) (i := 31) ch_code_640 rfl)
theorem ch_code_672 : (code.data.toList.drop 672).take 36 = [42, 29, 4, 96, 46, 42, 29, 5, 96, 46, 153, 0, 7, 4, 167, 0, 4, 3, 182, 0, 69, 87, 44, 42, 29, 4, 96, 46, 42, 29, 5, 96, 46, 153, 0, 7] := by decide +kernel
theorem dL_law_672 : decode code 672 = .ok (.aload_n 0, 1) := do_42 (rdb (p := 672) (i := 0) ch_code_672 rfl)
theorem dL_law_673 : decode code 673 = .ok (.iload_n 3, 1) := do_29 (rdb (p := 672) (i := 1) ch_code_672 rfl)
theorem dL_law_674 : decode code 674 = .ok (.iconst 1, 1) := do_4 (rdb (p := 672) (i := 2) ch_code_672 rfl)
theorem dL_law_675 : decode code 675 = .ok (.iadd, 1) := do_96 (rdb (p := 672) (i := 3) ch_code_672 rfl)
theorem dL_law_676 : decode code 676 = .ok (.iaload, 1) := do_46 (rdb (p := 672) (i := 4) ch_code_672 rfl)
theorem dL_law_677 : decode code 677 = .ok (.aload_n 0, 1) := do_42 (rdb (p := 672) (i := 5) ch_code_672 rfl)
theorem dL_law_678 : decode code 678 = .ok (.iload_n 3, 1) := do_29 (rdb (p := 672) (i := 6) ch_code_672 rfl)
theorem dL_law_679 : decode code 679 = .ok (.iconst 2, 1) := do_5 (rdb (p := 672) (i := 7) ch_code_672 rfl)
theorem dL_law_680 : decode code 680 = .ok (.iadd, 1) := do_96 (rdb (p := 672) (i := 8) ch_code_672 rfl)
theorem dL_law_681 : decode code 681 = .ok (.iaload, 1) := do_46 (rdb (p := 672) (i := 9) ch_code_672 rfl)
theorem dL_law_682 : decode code 682 = .ok (.ifCond .eq 7, 3) := do_153 (rdb (p := 672) (i := 10) ch_code_672 rfl) (rdb (p := 672) (i := 11) ch_code_672 rfl) (rdb (p := 672) (i := 12) ch_code_672 rfl) (by decide +kernel)
theorem dL_law_685 : decode code 685 = .ok (.iconst 1, 1) := do_4 (rdb (p := 672) (i := 13) ch_code_672 rfl)
theorem dL_law_686 : decode code 686 = .ok (.goto 4, 3) := do_167 (rdb (p := 672) (i := 14) ch_code_672 rfl) (rdb (p := 672) (i := 15) ch_code_672 rfl) (rdb (p := 672) (i := 16) ch_code_672 rfl) (by decide +kernel)
theorem dL_law_689 : decode code 689 = .ok (.iconst 0, 1) := do_3 (rdb (p := 672) (i := 17) ch_code_672 rfl)
theorem dL_law_690 : decode code 690 = .ok (.invokevirtual 69, 3) := do_182 (rdb (p := 672) (i := 18) ch_code_672 rfl) (rdb (p := 672) (i := 19) ch_code_672 rfl) (rdb (p := 672) (i := 20) ch_code_672 rfl) rfl
theorem dL_law_693 : decode code 693 = .ok (.pop, 1) := do_87 (rdb (p := 672) (i := 21) ch_code_672 rfl)
theorem dL_law_694 : decode code 694 = .ok (.aload_n 2, 1) := do_44 (rdb (p := 672) (i := 22) ch_code_672 rfl)
theorem dL_law_695 : decode code 695 = .ok (.aload_n 0, 1) := do_42 (rdb (p := 672) (i := 23) ch_code_672 rfl)
theorem dL_law_696 : decode code 696 = .ok (.iload_n 3, 1) := do_29 (rdb (p := 672) (i := 24) ch_code_672 rfl)
theorem dL_law_697 : decode code 697 = .ok (.iconst 1, 1) := do_4 (rdb (p := 672) (i := 25) ch_code_672 rfl)
theorem dL_law_698 : decode code 698 = .ok (.iadd, 1) := do_96 (rdb (p := 672) (i := 26) ch_code_672 rfl)
theorem dL_law_699 : decode code 699 = .ok (.iaload, 1) := do_46 (rdb (p := 672) (i := 27) ch_code_672 rfl)
theorem dL_law_700 : decode code 700 = .ok (.aload_n 0, 1) := do_42 (rdb (p := 672) (i := 28) ch_code_672 rfl)
theorem dL_law_701 : decode code 701 = .ok (.iload_n 3, 1) := do_29 (rdb (p := 672) (i := 29) ch_code_672 rfl)
theorem dL_law_702 : decode code 702 = .ok (.iconst 2, 1) := do_5 (rdb (p := 672) (i := 30) ch_code_672 rfl)
theorem dL_law_703 : decode code 703 = .ok (.iadd, 1) := do_96 (rdb (p := 672) (i := 31) ch_code_672 rfl)
theorem ch_code_704 : (code.data.toList.drop 704).take 36 = [46, 153, 0, 7, 4, 167, 0, 4, 3, 182, 0, 73, 87, 167, 3, 246, 43, 42, 29, 4, 96, 46, 133, 16, 32, 121, 42, 29, 5, 96, 46, 133, 20, 0, 74, 127] := by decide +kernel
theorem dL_law_704 : decode code 704 = .ok (.iaload, 1) := do_46 (rdb (p := 704) (i := 0) ch_code_704 rfl)
theorem dL_law_705 : decode code 705 = .ok (.ifCond .eq 7, 3) := do_153 (rdb (p := 704) (i := 1) ch_code_704 rfl) (rdb (p := 704) (i := 2) ch_code_704 rfl) (rdb (p := 704) (i := 3) ch_code_704 rfl) (by decide +kernel)
theorem dL_law_708 : decode code 708 = .ok (.iconst 1, 1) := do_4 (rdb (p := 704) (i := 4) ch_code_704 rfl)
theorem dL_law_709 : decode code 709 = .ok (.goto 4, 3) := do_167 (rdb (p := 704) (i := 5) ch_code_704 rfl) (rdb (p := 704) (i := 6) ch_code_704 rfl) (rdb (p := 704) (i := 7) ch_code_704 rfl) (by decide +kernel)
theorem dL_law_712 : decode code 712 = .ok (.iconst 0, 1) := do_3 (rdb (p := 704) (i := 8) ch_code_704 rfl)
theorem dL_law_713 : decode code 713 = .ok (.invokevirtual 73, 3) := do_182 (rdb (p := 704) (i := 9) ch_code_704 rfl) (rdb (p := 704) (i := 10) ch_code_704 rfl) (rdb (p := 704) (i := 11) ch_code_704 rfl) rfl
theorem dL_law_716 : decode code 716 = .ok (.pop, 1) := do_87 (rdb (p := 704) (i := 12) ch_code_704 rfl)
theorem dL_law_717 : decode code 717 = .ok (.goto 1014, 3) := do_167 (rdb (p := 704) (i := 13) ch_code_704 rfl) (rdb (p := 704) (i := 14) ch_code_704 rfl) (rdb (p := 704) (i := 15) ch_code_704 rfl) (by decide +kernel)
theorem dL_law_720 : decode code 720 = .ok (.aload_n 1, 1) := do_43 (rdb (p := 704) (i := 16) ch_code_704 rfl)
theorem dL_law_721 : decode code 721 = .ok (.aload_n 0, 1) := do_42 (rdb (p := 704) (i := 17) ch_code_704 rfl)
theorem dL_law_722 : decode code 722 = .ok (.iload_n 3, 1) := do_29 (rdb (p := 704) (i := 18) ch_code_704 rfl)
theorem dL_law_723 : decode code 723 = .ok (.iconst 1, 1) := do_4 (rdb (p := 704) (i := 19) ch_code_704 rfl)
theorem dL_law_724 : decode code 724 = .ok (.iadd, 1) := do_96 (rdb (p := 704) (i := 20) ch_code_704 rfl)
theorem dL_law_725 : decode code 725 = .ok (.iaload, 1) := do_46 (rdb (p := 704) (i := 21) ch_code_704 rfl)
theorem dL_law_726 : decode code 726 = .ok (.i2l, 1) := do_133 (rdb (p := 704) (i := 22) ch_code_704 rfl)
theorem dL_law_727 : decode code 727 = .ok (.bipush 32, 2) := do_16 (rdb (p := 704) (i := 23) ch_code_704 rfl) (rdb (p := 704) (i := 24) ch_code_704 rfl) (by decide +kernel)
theorem dL_law_729 : decode code 729 = .ok (.lshl, 1) := do_121 (rdb (p := 704) (i := 25) ch_code_704 rfl)
theorem dL_law_730 : decode code 730 = .ok (.aload_n 0, 1) := do_42 (rdb (p := 704) (i := 26) ch_code_704 rfl)
theorem dL_law_731 : decode code 731 = .ok (.iload_n 3, 1) := do_29 (rdb (p := 704) (i := 27) ch_code_704 rfl)
theorem dL_law_732 : decode code 732 = .ok (.iconst 2, 1) := do_5 (rdb (p := 704) (i := 28) ch_code_704 rfl)
theorem dL_law_733 : decode code 733 = .ok (.iadd, 1) := do_96 (rdb (p := 704) (i := 29) ch_code_704 rfl)
theorem dL_law_734 : decode code 734 = .ok (.iaload, 1) := do_46 (rdb (p := 704) (i := 30) ch_code_704 rfl)
theorem dL_law_735 : decode code 735 = .ok (.i2l, 1) := do_133 (rdb (p := 704) (i := 31) ch_code_704 rfl)
theorem ch_code_736 : (code.data.toList.drop 736).take 36 = [20, 0, 74, 127, 129, 42, 29, 6, 96, 46, 182, 0, 76, 87, 44, 42, 29, 4, 96, 46, 133, 16, 32, 121, 42, 29, 5, 96, 46, 133, 20, 0, 74, 127, 129, 42] := by decide +kernel
theorem dL_law_736 : decode code 736 = .ok (.ldc2_w 74, 3) := do_20 (rdb (p := 736) (i := 0) ch_code_736 rfl) (rdb (p := 736) (i := 1) ch_code_736 rfl) (rdb (p := 736) (i := 2) ch_code_736 rfl) rfl
theorem dL_law_739 : decode code 739 = .ok (.land, 1) := do_127 (rdb (p := 736) (i := 3) ch_code_736 rfl)
theorem dL_law_740 : decode code 740 = .ok (.lor, 1) := do_129 (rdb (p := 736) (i := 4) ch_code_736 rfl)
theorem dL_law_741 : decode code 741 = .ok (.aload_n 0, 1) := do_42 (rdb (p := 736) (i := 5) ch_code_736 rfl)
theorem dL_law_742 : decode code 742 = .ok (.iload_n 3, 1) := do_29 (rdb (p := 736) (i := 6) ch_code_736 rfl)
theorem dL_law_743 : decode code 743 = .ok (.iconst 3, 1) := do_6 (rdb (p := 736) (i := 7) ch_code_736 rfl)
theorem dL_law_744 : decode code 744 = .ok (.iadd, 1) := do_96 (rdb (p := 736) (i := 8) ch_code_736 rfl)
theorem dL_law_745 : decode code 745 = .ok (.iaload, 1) := do_46 (rdb (p := 736) (i := 9) ch_code_736 rfl)
theorem dL_law_746 : decode code 746 = .ok (.invokevirtual 76, 3) := do_182 (rdb (p := 736) (i := 10) ch_code_736 rfl) (rdb (p := 736) (i := 11) ch_code_736 rfl) (rdb (p := 736) (i := 12) ch_code_736 rfl) rfl
theorem dL_law_749 : decode code 749 = .ok (.pop, 1) := do_87 (rdb (p := 736) (i := 13) ch_code_736 rfl)
theorem dL_law_750 : decode code 750 = .ok (.aload_n 2, 1) := do_44 (rdb (p := 736) (i := 14) ch_code_736 rfl)
theorem dL_law_751 : decode code 751 = .ok (.aload_n 0, 1) := do_42 (rdb (p := 736) (i := 15) ch_code_736 rfl)
theorem dL_law_752 : decode code 752 = .ok (.iload_n 3, 1) := do_29 (rdb (p := 736) (i := 16) ch_code_736 rfl)
theorem dL_law_753 : decode code 753 = .ok (.iconst 1, 1) := do_4 (rdb (p := 736) (i := 17) ch_code_736 rfl)
theorem dL_law_754 : decode code 754 = .ok (.iadd, 1) := do_96 (rdb (p := 736) (i := 18) ch_code_736 rfl)
theorem dL_law_755 : decode code 755 = .ok (.iaload, 1) := do_46 (rdb (p := 736) (i := 19) ch_code_736 rfl)
theorem dL_law_756 : decode code 756 = .ok (.i2l, 1) := do_133 (rdb (p := 736) (i := 20) ch_code_736 rfl)
theorem dL_law_757 : decode code 757 = .ok (.bipush 32, 2) := do_16 (rdb (p := 736) (i := 21) ch_code_736 rfl) (rdb (p := 736) (i := 22) ch_code_736 rfl) (by decide +kernel)
theorem dL_law_759 : decode code 759 = .ok (.lshl, 1) := do_121 (rdb (p := 736) (i := 23) ch_code_736 rfl)
theorem dL_law_760 : decode code 760 = .ok (.aload_n 0, 1) := do_42 (rdb (p := 736) (i := 24) ch_code_736 rfl)
theorem dL_law_761 : decode code 761 = .ok (.iload_n 3, 1) := do_29 (rdb (p := 736) (i := 25) ch_code_736 rfl)
theorem dL_law_762 : decode code 762 = .ok (.iconst 2, 1) := do_5 (rdb (p := 736) (i := 26) ch_code_736 rfl)
theorem dL_law_763 : decode code 763 = .ok (.iadd, 1) := do_96 (rdb (p := 736) (i := 27) ch_code_736 rfl)
theorem dL_law_764 : decode code 764 = .ok (.iaload, 1) := do_46 (rdb (p := 736) (i := 28) ch_code_736 rfl)
theorem dL_law_765 : decode code 765 = .ok (.i2l, 1) := do_133 (rdb (p := 736) (i := 29) ch_code_736 rfl)
theorem dL_law_766 : decode code 766 = .ok (.ldc2_w 74, 3) := do_20 (rdb (p := 736) (i := 30) ch_code_736 rfl) (rdb (p := 736) (i := 31) ch_code_736 rfl) (rdb (p := 736) (i := 32) ch_code_736 rfl) rfl
theorem ch_code_768 : (code.data.toList.drop 768).take 36 = [74, 127, 129, 42, 29, 6, 96, 46, 182, 0, 80, 87, 167, 3, 183, 43, 42, 29, 4, 96, 46, 182, 0, 81, 87, 44, 42, 29, 4, 96, 46, 182, 0, 84, 87, 167] := by decide +kernel
theorem dL_law_769 : decode code 769 = .ok (.land, 1) := do_127 (rdb (p := 768) (i := 1) ch_code_768 rfl)
theorem dL_law_770 : decode code 770 = .ok (.lor, 1) := do_129 (rdb (p := 768) (i := 2) ch_code_768 rfl)
theorem dL_law_771 : decode code 771 = .ok (.aload_n 0, 1) := do_42 (rdb (p := 768) (i := 3) ch_code_768 rfl)
theorem dL_law_772 : decode code 772 = .ok (.iload_n 3, 1) := do_29 (rdb (p := 768) (i := 4) ch_code_768 rfl)
theorem dL_law_773 : decode code 773 = .ok (.iconst 3, 1) := do_6 (rdb (p := 768) (i := 5) ch_code_768 rfl)
theorem dL_law_774 : decode code 774 = .ok (.iadd, 1) := do_96 (rdb (p := 768) (i := 6) ch_code_768 rfl)
theorem dL_law_775 : decode code 775 = .ok (.iaload, 1) := do_46 (rdb (p := 768) (i := 7) ch_code_768 rfl)
theorem dL_law_776 : decode code 776 = .ok (.invokevirtual 80, 3) := do_182 (rdb (p := 768) (i := 8) ch_code_768 rfl) (rdb (p := 768) (i := 9) ch_code_768 rfl) (rdb (p := 768) (i := 10) ch_code_768 rfl) rfl
theorem dL_law_779 : decode code 779 = .ok (.pop, 1) := do_87 (rdb (p := 768) (i := 11) ch_code_768 rfl)
theorem dL_law_780 : decode code 780 = .ok (.goto 951, 3) := do_167 (rdb (p := 768) (i := 12) ch_code_768 rfl) (rdb (p := 768) (i := 13) ch_code_768 rfl) (rdb (p := 768) (i := 14) ch_code_768 rfl) (by decide +kernel)
theorem dL_law_783 : decode code 783 = .ok (.aload_n 1, 1) := do_43 (rdb (p := 768) (i := 15) ch_code_768 rfl)
theorem dL_law_784 : decode code 784 = .ok (.aload_n 0, 1) := do_42 (rdb (p := 768) (i := 16) ch_code_768 rfl)
theorem dL_law_785 : decode code 785 = .ok (.iload_n 3, 1) := do_29 (rdb (p := 768) (i := 17) ch_code_768 rfl)
theorem dL_law_786 : decode code 786 = .ok (.iconst 1, 1) := do_4 (rdb (p := 768) (i := 18) ch_code_768 rfl)
theorem dL_law_787 : decode code 787 = .ok (.iadd, 1) := do_96 (rdb (p := 768) (i := 19) ch_code_768 rfl)
theorem dL_law_788 : decode code 788 = .ok (.iaload, 1) := do_46 (rdb (p := 768) (i := 20) ch_code_768 rfl)
theorem dL_law_789 : decode code 789 = .ok (.invokevirtual 81, 3) := do_182 (rdb (p := 768) (i := 21) ch_code_768 rfl) (rdb (p := 768) (i := 22) ch_code_768 rfl) (rdb (p := 768) (i := 23) ch_code_768 rfl) rfl
theorem dL_law_792 : decode code 792 = .ok (.pop, 1) := do_87 (rdb (p := 768) (i := 24) ch_code_768 rfl)
theorem dL_law_793 : decode code 793 = .ok (.aload_n 2, 1) := do_44 (rdb (p := 768) (i := 25) ch_code_768 rfl)
theorem dL_law_794 : decode code 794 = .ok (.aload_n 0, 1) := do_42 (rdb (p := 768) (i := 26) ch_code_768 rfl)
theorem dL_law_795 : decode code 795 = .ok (.iload_n 3, 1) := do_29 (rdb (p := 768) (i := 27) ch_code_768 rfl)
theorem dL_law_796 : decode code 796 = .ok (.iconst 1, 1) := do_4 (rdb (p := 768) (i := 28) ch_code_768 rfl)
theorem dL_law_797 : decode code 797 = .ok (.iadd, 1) := do_96 (rdb (p := 768) (i := 29) ch_code_768 rfl)
theorem dL_law_798 : decode code 798 = .ok (.iaload, 1) := do_46 (rdb (p := 768) (i := 30) ch_code_768 rfl)
theorem dL_law_799 : decode code 799 = .ok (.invokevirtual 84, 3) := do_182 (rdb (p := 768) (i := 31) ch_code_768 rfl) (rdb (p := 768) (i := 32) ch_code_768 rfl) (rdb (p := 768) (i := 33) ch_code_768 rfl) rfl
theorem ch_code_800 : (code.data.toList.drop 800).take 36 = [0, 84, 87, 167, 3, 160, 43, 42, 29, 4, 96, 46, 42, 29, 5, 96, 46, 42, 29, 6, 96, 46, 42, 29, 7, 96, 46, 182, 0, 85, 87, 44, 42, 29, 4, 96] := by decide +kernel
theorem dL_law_802 : decode code 802 = .ok (.pop, 1) := do_87 (rdb (p := 800) (i := 2) ch_code_800 rfl)
theorem dL_law_803 : decode code 803 = .ok (.goto 928, 3) := do_167 (rdb (p := 800) (i := 3) ch_code_800 rfl) (rdb (p := 800) (i := 4) ch_code_800 rfl) (rdb (p := 800) (i := 5) ch_code_800 rfl) (by decide +kernel)
theorem dL_law_806 : decode code 806 = .ok (.aload_n 1, 1) := do_43 (rdb (p := 800) (i := 6) ch_code_800 rfl)
theorem dL_law_807 : decode code 807 = .ok (.aload_n 0, 1) := do_42 (rdb (p := 800) (i := 7) ch_code_800 rfl)
theorem dL_law_808 : decode code 808 = .ok (.iload_n 3, 1) := do_29 (rdb (p := 800) (i := 8) ch_code_800 rfl)
theorem dL_law_809 : decode code 809 = .ok (.iconst 1, 1) := do_4 (rdb (p := 800) (i := 9) ch_code_800 rfl)
theorem dL_law_810 : decode code 810 = .ok (.iadd, 1) := do_96 (rdb (p := 800) (i := 10) ch_code_800 rfl)
theorem dL_law_811 : decode code 811 = .ok (.iaload, 1) := do_46 (rdb (p := 800) (i := 11) ch_code_800 rfl)
theorem dL_law_812 : decode code 812 = .ok (.aload_n 0, 1) := do_42 (rdb (p := 800) (i := 12) ch_code_800 rfl)
theorem dL_law_813 : decode code 813 = .ok (.iload_n 3, 1) := do_29 (rdb (p := 800) (i := 13) ch_code_800 rfl)
theorem dL_law_814 : decode code 814 = .ok (.iconst 2, 1) := do_5 (rdb (p := 800) (i := 14) ch_code_800 rfl)
theorem dL_law_815 : decode code 815 = .ok (.iadd, 1) := do_96 (rdb (p := 800) (i := 15) ch_code_800 rfl)
theorem dL_law_816 : decode code 816 = .ok (.iaload, 1) := do_46 (rdb (p := 800) (i := 16) ch_code_800 rfl)
theorem dL_law_817 : decode code 817 = .ok (.aload_n 0, 1) := do_42 (rdb (p := 800) (i := 17) ch_code_800 rfl)
theorem dL_law_818 : decode code 818 = .ok (.iload_n 3, 1) := do_29 (rdb (p := 800) (i := 18) ch_code_800 rfl)
theorem dL_law_819 : decode code 819 = .ok (.iconst 3, 1) := do_6 (rdb (p := 800) (i := 19) ch_code_800 rfl)
theorem dL_law_820 : decode code 820 = .ok (.iadd, 1) := do_96 (rdb (p := 800) (i := 20) ch_code_800 rfl)
theorem dL_law_821 : decode code 821 = .ok (.iaload, 1) := do_46 (rdb (p := 800) (i := 21) ch_code_800 rfl)
theorem dL_law_822 : decode code 822 = .ok (.aload_n 0, 1) := do_42 (rdb (p := 800) (i := 22) ch_code_800 rfl)
theorem dL_law_823 : decode code 823 = .ok (.iload_n 3, 1) := do_29 (rdb (p := 800) (i := 23) ch_code_800 rfl)
theorem dL_law_824 : decode code 824 = .ok (.iconst 4, 1) := do_7 (rdb (p := 800) (i := 24) ch_code_800 rfl)
theorem dL_law_825 : decode code 825 = .ok (.iadd, 1) := do_96 (rdb (p := 800) (i := 25) ch_code_800 rfl)
theorem dL_law_826 : decode code 826 = .ok (.iaload, 1) := do_46 (rdb (p := 800) (i := 26) ch_code_800 rfl)
theorem dL_law_827 : decode code 827 = .ok (.invokevirtual 85, 3) := do_182 (rdb (p := 800) (i := 27) ch_code_800 rfl) (rdb (p := 800) (i := 28) ch_code_800 rfl) (rdb (p := 800) (i := 29) ch_code_800 rfl) rfl
theorem dL_law_830 : decode code 830 = .ok (.pop, 1) := do_87 (rdb (p := 800) (i := 30) ch_code_800 rfl)
theorem dL_law_831 : decode code 831 = .ok (.aload_n 2, 1) := do_44 (rdb (p := 800) (i := 31) ch_code_800 rfl)
theorem ch_code_832 : (code.data.toList.drop 832).take 36 = [42, 29, 4, 96, 46, 42, 29, 5, 96, 46, 42, 29, 6, 96, 46, 42, 29, 7, 96, 46, 182, 0, 88, 87, 167, 3, 107, 43, 42, 29, 4, 96, 46, 182, 0, 89] := by decide +kernel
theorem dL_law_832 : decode code 832 = .ok (.aload_n 0, 1) := do_42 (rdb (p := 832) (i := 0) ch_code_832 rfl)
theorem dL_law_833 : decode code 833 = .ok (.iload_n 3, 1) := do_29 (rdb (p := 832) (i := 1) ch_code_832 rfl)
theorem dL_law_834 : decode code 834 = .ok (.iconst 1, 1) := do_4 (rdb (p := 832) (i := 2) ch_code_832 rfl)
theorem dL_law_835 : decode code 835 = .ok (.iadd, 1) := do_96 (rdb (p := 832) (i := 3) ch_code_832 rfl)
theorem dL_law_836 : decode code 836 = .ok (.iaload, 1) := do_46 (rdb (p := 832) (i := 4) ch_code_832 rfl)
theorem dL_law_837 : decode code 837 = .ok (.aload_n 0, 1) := do_42 (rdb (p := 832) (i := 5) ch_code_832 rfl)
theorem dL_law_838 : decode code 838 = .ok (.iload_n 3, 1) := do_29 (rdb (p := 832) (i := 6) ch_code_832 rfl)
theorem dL_law_839 : decode code 839 = .ok (.iconst 2, 1) := do_5 (rdb (p := 832) (i := 7) ch_code_832 rfl)
theorem dL_law_840 : decode code 840 = .ok (.iadd, 1) := do_96 (rdb (p := 832) (i := 8) ch_code_832 rfl)
theorem dL_law_841 : decode code 841 = .ok (.iaload, 1) := do_46 (rdb (p := 832) (i := 9) ch_code_832 rfl)
theorem dL_law_842 : decode code 842 = .ok (.aload_n 0, 1) := do_42 (rdb (p := 832) (i := 10) ch_code_832 rfl)
theorem dL_law_843 : decode code 843 = .ok (.iload_n 3, 1) := do_29 (rdb (p := 832) (i := 11) ch_code_832 rfl)
theorem dL_law_844 : decode code 844 = .ok (.iconst 3, 1) := do_6 (rdb (p := 832) (i := 12) ch_code_832 rfl)
theorem dL_law_845 : decode code 845 = .ok (.iadd, 1) := do_96 (rdb (p := 832) (i := 13) ch_code_832 rfl)
theorem dL_law_846 : decode code 846 = .ok (.iaload, 1) := do_46 (rdb (p := 832) (i := 14) ch_code_832 rfl)
theorem dL_law_847 : decode code 847 = .ok (.aload_n 0, 1) := do_42 (rdb (p := 832) (i := 15) ch_code_832 rfl)
theorem dL_law_848 : decode code 848 = .ok (.iload_n 3, 1) := do_29 (rdb (p := 832) (i := 16) ch_code_832 rfl)
theorem dL_law_849 : decode code 849 = .ok (.iconst 4, 1) := do_7 (rdb (p := 832) (i := 17) ch_code_832 rfl)
theorem dL_law_850 : decode code 850 = .ok (.iadd, 1) := do_96 (rdb (p := 832) (i := 18) ch_code_832 rfl)
theorem dL_law_851 : decode code 851 = .ok (.iaload, 1) := do_46 (rdb (p := 832) (i := 19) ch_code_832 rfl)
theorem dL_law_852 : decode code 852 = .ok (.invokevirtual 88, 3) := do_182 (rdb (p := 832) (i := 20) ch_code_832 rfl) (rdb (p := 832) (i := 21) ch_code_832 rfl) (rdb (p := 832) (i := 22) ch_code_832 rfl) rfl
theorem dL_law_855 : decode code 855 = .ok (.pop, 1) := do_87 (rdb (p := 832) (i := 23) ch_code_832 rfl)
theorem dL_law_856 : decode code 856 = .ok (.goto 875, 3) := do_167 (rdb (p := 832) (i := 24) ch_code_832 rfl) (rdb (p := 832) (i := 25) ch_code_832 rfl) (rdb (p := 832) (i := 26) ch_code_832 rfl) (by decide +kernel)
theorem dL_law_859 : decode code 859 = .ok (.aload_n 1, 1) := do_43 (rdb (p := 832) (i := 27) ch_code_832 rfl)
theorem dL_law_860 : decode code 860 = .ok (.aload_n 0, 1) := do_42 (rdb (p := 832) (i := 28) ch_code_832 rfl)
theorem dL_law_861 : decode code 861 = .ok (.iload_n 3, 1) := do_29 (rdb (p := 832) (i := 29) ch_code_832 rfl)
theorem dL_law_862 : decode code 862 = .ok (.iconst 1, 1) := do_4 (rdb (p := 832) (i := 30) ch_code_832 rfl)
theorem dL_law_863 : decode code 863 = .ok (.iadd, 1) := do_96 (rdb (p := 832) (i := 31) ch_code_832 rfl)
theorem ch_code_864 : (code.data.toList.drop 864).take 36 = [46, 182, 0, 89, 87, 44, 42, 29, 4, 96, 46, 182, 0, 92, 87, 167, 3, 84, 43, 42, 29, 4, 96, 46, 42, 29, 5, 96, 46, 42, 29, 6, 96, 46, 182, 0] := by decide +kernel
theorem dL_law_864 : decode code 864 = .ok (.iaload, 1) := do_46 (rdb (p := 864) (i := 0) ch_code_864 rfl)
theorem dL_law_865 : decode code 865 = .ok (.invokevirtual 89, 3) := do_182 (rdb (p := 864) (i := 1) ch_code_864 rfl) (rdb (p := 864) (i := 2) ch_code_864 rfl) (rdb (p := 864) (i := 3) ch_code_864 rfl) rfl
theorem dL_law_868 : decode code 868 = .ok (.pop, 1) := do_87 (rdb (p := 864) (i := 4) ch_code_864 rfl)
theorem dL_law_869 : decode code 869 = .ok (.aload_n 2, 1) := do_44 (rdb (p := 864) (i := 5) ch_code_864 rfl)
theorem dL_law_870 : decode code 870 = .ok (.aload_n 0, 1) := do_42 (rdb (p := 864) (i := 6) ch_code_864 rfl)
theorem dL_law_871 : decode code 871 = .ok (.iload_n 3, 1) := do_29 (rdb (p := 864) (i := 7) ch_code_864 rfl)
theorem dL_law_872 : decode code 872 = .ok (.iconst 1, 1) := do_4 (rdb (p := 864) (i := 8) ch_code_864 rfl)
theorem dL_law_873 : decode code 873 = .ok (.iadd, 1) := do_96 (rdb (p := 864) (i := 9) ch_code_864 rfl)
theorem dL_law_874 : decode code 874 = .ok (.iaload, 1) := do_46 (rdb (p := 864) (i := 10) ch_code_864 rfl)
theorem dL_law_875 : decode code 875 = .ok (.invokevirtual 92, 3) := do_182 (rdb (p := 864) (i := 11) ch_code_864 rfl) (rdb (p := 864) (i := 12) ch_code_864 rfl) (rdb (p := 864) (i := 13) ch_code_864 rfl) rfl
theorem dL_law_878 : decode code 878 = .ok (.pop, 1) := do_87 (rdb (p := 864) (i := 14) ch_code_864 rfl)
theorem dL_law_879 : decode code 879 = .ok (.goto 852, 3) := do_167 (rdb (p := 864) (i := 15) ch_code_864 rfl) (rdb (p := 864) (i := 16) ch_code_864 rfl) (rdb (p := 864) (i := 17) ch_code_864 rfl) (by decide +kernel)
theorem dL_law_882 : decode code 882 = .ok (.aload_n 1, 1) := do_43 (rdb (p := 864) (i := 18) ch_code_864 rfl)
theorem dL_law_883 : decode code 883 = .ok (.aload_n 0, 1) := do_42 (rdb (p := 864) (i := 19) ch_code_864 rfl)
theorem dL_law_884 : decode code 884 = .ok (.iload_n 3, 1) := do_29 (rdb (p := 864) (i := 20) ch_code_864 rfl)
theorem dL_law_885 : decode code 885 = .ok (.iconst 1, 1) := do_4 (rdb (p := 864) (i := 21) ch_code_864 rfl)
theorem dL_law_886 : decode code 886 = .ok (.iadd, 1) := do_96 (rdb (p := 864) (i := 22) ch_code_864 rfl)
theorem dL_law_887 : decode code 887 = .ok (.iaload, 1) := do_46 (rdb (p := 864) (i := 23) ch_code_864 rfl)
theorem dL_law_888 : decode code 888 = .ok (.aload_n 0, 1) := do_42 (rdb (p := 864) (i := 24) ch_code_864 rfl)
theorem dL_law_889 : decode code 889 = .ok (.iload_n 3, 1) := do_29 (rdb (p := 864) (i := 25) ch_code_864 rfl)
theorem dL_law_890 : decode code 890 = .ok (.iconst 2, 1) := do_5 (rdb (p := 864) (i := 26) ch_code_864 rfl)
theorem dL_law_891 : decode code 891 = .ok (.iadd, 1) := do_96 (rdb (p := 864) (i := 27) ch_code_864 rfl)
theorem dL_law_892 : decode code 892 = .ok (.iaload, 1) := do_46 (rdb (p := 864) (i := 28) ch_code_864 rfl)
theorem dL_law_893 : decode code 893 = .ok (.aload_n 0, 1) := do_42 (rdb (p := 864) (i := 29) ch_code_864 rfl)
theorem dL_law_894 : decode code 894 = .ok (.iload_n 3, 1) := do_29 (rdb (p := 864) (i := 30) ch_code_864 rfl)
theorem dL_law_895 : decode code 895 = .ok (.iconst 3, 1) := do_6 (rdb (p := 864) (i := 31) ch_code_864 rfl)
theorem ch_code_896 : (code.data.toList.drop 896).take 36 = [96, 46, 182, 0, 93, 87, 44, 42, 29, 4, 96, 46, 42, 29, 5, 96, 46, 42, 29, 6, 96, 46, 182, 0, 96, 87, 167, 3, 41, 43, 42, 29, 4, 96, 46, 42] := by decide +kernel
theorem dL_law_896 : decode code 896 = .ok (.iadd, 1) := do_96 (rdb (p := 896) (i := 0) ch_code_896 rfl)
theorem dL_law_897 : decode code 897 = .ok (.iaload, 1) := do_46 (rdb (p := 896) (i := 1) ch_code_896 rfl)
theorem dL_law_898 : decode code 898 = .ok (.invokevirtual 93, 3) := do_182 (rdb (p := 896) (i := 2) ch_code_896 rfl) (rdb (p := 896) (i := 3) ch_code_896 rfl) (rdb (p := 896) (i := 4) ch_code_896 rfl) rfl
theorem dL_law_901 : decode code 901 = .ok (.pop, 1) := do_87 (rdb (p := 896) (i := 5) ch_code_896 rfl)
theorem dL_law_902 : decode code 902 = .ok (.aload_n 2, 1) := do_44 (rdb (p := 896) (i := 6) ch_code_896 rfl)
theorem dL_law_903 : decode code 903 = .ok (.aload_n 0, 1) := do_42 (rdb (p := 896) (i := 7) ch_code_896 rfl)
theorem dL_law_904 : decode code 904 = .ok (.iload_n 3, 1) := do_29 (rdb (p := 896) (i := 8) ch_code_896 rfl)
theorem dL_law_905 : decode code 905 = .ok (.iconst 1, 1) := do_4 (rdb (p := 896) (i := 9) ch_code_896 rfl)
theorem dL_law_906 : decode code 906 = .ok (.iadd, 1) := do_96 (rdb (p := 896) (i := 10) ch_code_896 rfl)
theorem dL_law_907 : decode code 907 = .ok (.iaload, 1) := do_46 (rdb (p := 896) (i := 11) ch_code_896 rfl)
theorem dL_law_908 : decode code 908 = .ok (.aload_n 0, 1) := do_42 (rdb (p := 896) (i := 12) ch_code_896 rfl)
theorem dL_law_909 : decode code 909 = .ok (.iload_n 3, 1) := do_29 (rdb (p := 896) (i := 13) ch_code_896 rfl)
theorem dL_law_910 : decode code 910 = .ok (.iconst 2, 1) := do_5 (rdb (p := 896) (i := 14) ch_code_896 rfl)
theorem dL_law_911 : decode code 911 = .ok (.iadd, 1) := do_96 (rdb (p := 896) (i := 15) ch_code_896 rfl)
theorem dL_law_912 : decode code 912 = .ok (.iaload, 1) := do_46 (rdb (p := 896) (i := 16) ch_code_896 rfl)
theorem dL_law_913 : decode code 913 = .ok (.aload_n 0, 1) := do_42 (rdb (p := 896) (i := 17) ch_code_896 rfl)
theorem dL_law_914 : decode code 914 = .ok (.iload_n 3, 1) := do_29 (rdb (p := 896) (i := 18) ch_code_896 rfl)
theorem dL_law_915 : decode code 915 = .ok (.iconst 3, 1) := do_6 (rdb (p := 896) (i := 19) ch_code_896 rfl)
theorem dL_law_916 : decode code 916 = .ok (.iadd, 1) := do_96 (rdb (p := 896) (i := 20) ch_code_896 rfl)
theorem dL_law_917 : decode code 917 = .ok (.iaload, 1) := do_46 (rdb (p := 896) (i := 21) ch_code_896 rfl)
theorem dL_law_918 : decode code 918 = .ok (.invokevirtual 96, 3) := do_182 (rdb (p := 896) (i := 22) ch_code_896 rfl) (rdb (p := 896) (i := 23) ch_code_896 rfl) (rdb (p := 896) (i := 24) ch_code_896 rfl) rfl
theorem dL_law_921 : decode code 921 = .ok (.pop, 1) := do_87 (rdb (p := 896) (i := 25) ch_code_896 rfl)
theorem dL_law_922 : decode code 922 = .ok (.goto 809, 3) := do_167 (rdb (p := 896) (i := 26) ch_code_896 rfl) (rdb (p := 896) (i := 27) ch_code_896 rfl) (rdb (p := 896) (i := 28) ch_code_896 rfl) (by decide +kernel)
theorem dL_law_925 : decode code 925 = .ok (.aload_n 1, 1) := do_43 (rdb (p := 896) (i := 29) ch_code_896 rfl)
theorem dL_law_926 : decode code 926 = .ok (.aload_n 0, 1) := do_42 (rdb (p := 896) (i := 30) ch_code_896 rfl)
theorem dL_law_927 : decode code 927 = .ok (.iload_n 3, 1) := do_29 (rdb (p := 896) (i := 31) ch_code_896 rfl)
theorem ch_code_928 : (code.data.toList.drop 928).take 36 = [4, 96, 46, 42, 29, 5, 96, 46, 182, 0, 97, 87, 44, 42, 29, 4, 96, 46, 42, 29, 5, 96, 46, 182, 0, 100, 87, 167, 3, 8, 43, 42, 29, 4, 96, 46] := by decide +kernel
theorem dL_law_928 : decode code 928 = .ok (.iconst 1, 1) := do_4 (rdb (p := 928) (i := 0) ch_code_928 rfl)
theorem dL_law_929 : decode code 929 = .ok (.iadd, 1) := do_96 (rdb (p := 928) (i := 1) ch_code_928 rfl)
theorem dL_law_930 : decode code 930 = .ok (.iaload, 1) := do_46 (rdb (p := 928) (i := 2) ch_code_928 rfl)
theorem dL_law_931 : decode code 931 = .ok (.aload_n 0, 1) := do_42 (rdb (p := 928) (i := 3) ch_code_928 rfl)
theorem dL_law_932 : decode code 932 = .ok (.iload_n 3, 1) := do_29 (rdb (p := 928) (i := 4) ch_code_928 rfl)
theorem dL_law_933 : decode code 933 = .ok (.iconst 2, 1) := do_5 (rdb (p := 928) (i := 5) ch_code_928 rfl)
theorem dL_law_934 : decode code 934 = .ok (.iadd, 1) := do_96 (rdb (p := 928) (i := 6) ch_code_928 rfl)
theorem dL_law_935 : decode code 935 = .ok (.iaload, 1) := do_46 (rdb (p := 928) (i := 7) ch_code_928 rfl)
theorem dL_law_936 : decode code 936 = .ok (.invokevirtual 97, 3) := do_182 (rdb (p := 928) (i := 8) ch_code_928 rfl) (rdb (p := 928) (i := 9) ch_code_928 rfl) (rdb (p := 928) (i := 10) ch_code_928 rfl) rfl
theorem dL_law_939 : decode code 939 = .ok (.pop, 1) := do_87 (rdb (p := 928) (i := 11) ch_code_928 rfl)
theorem dL_law_940 : decode code 940 = .ok (.aload_n 2, 1) := do_44 (rdb (p := 928) (i := 12) ch_code_928 rfl)
theorem dL_law_941 : decode code 941 = .ok (.aload_n 0, 1) := do_42 (rdb (p := 928) (i := 13) ch_code_928 rfl)
theorem dL_law_942 : decode code 942 = .ok (.iload_n 3, 1) := do_29 (rdb (p := 928) (i := 14) ch_code_928 rfl)
theorem dL_law_943 : decode code 943 = .ok (.iconst 1, 1) := do_4 (rdb (p := 928) (i := 15) ch_code_928 rfl)
theorem dL_law_944 : decode code 944 = .ok (.iadd, 1) := do_96 (rdb (p := 928) (i := 16) ch_code_928 rfl)
theorem dL_law_945 : decode code 945 = .ok (.iaload, 1) := do_46 (rdb (p := 928) (i := 17) ch_code_928 rfl)
theorem dL_law_946 : decode code 946 = .ok (.aload_n 0, 1) := do_42 (rdb (p := 928) (i := 18) ch_code_928 rfl)
theorem dL_law_947 : decode code 947 = .ok (.iload_n 3, 1) := do_29 (rdb (p := 928) (i := 19) ch_code_928 rfl)
theorem dL_law_948 : decode code 948 = .ok (.iconst 2, 1) := do_5 (rdb (p := 928) (i := 20) ch_code_928 rfl)
theorem dL_law_949 : decode code 949 = .ok (.iadd, 1) := do_96 (rdb (p := 928) (i := 21) ch_code_928 rfl)
theorem dL_law_950 : decode code 950 = .ok (.iaload, 1) := do_46 (rdb (p := 928) (i := 22) ch_code_928 rfl)
theorem dL_law_951 : decode code 951 = .ok (.invokevirtual 100, 3) := do_182 (rdb (p := 928) (i := 23) ch_code_928 rfl) (rdb (p := 928) (i := 24) ch_code_928 rfl) (rdb (p := 928) (i := 25) ch_code_928 rfl) rfl
theorem dL_law_954 : decode code 954 = .ok (.pop, 1) := do_87 (rdb (p := 928) (i := 26) ch_code_928 rfl)
theorem dL_law_955 : decode code 955 = .ok (.goto 776, 3) := do_167 (rdb (p := 928) (i := 27) ch_code_928 rfl) (rdb (p := 928) (i := 28) ch_code_928 rfl) (rdb (p := 928) (i := 29) ch_code_928 rfl) (by decide +kernel)
theorem dL_law_958 : decode code 958 = .ok (.aload_n 1, 1) := do_43 (rdb (p := 928) (i := 30) ch_code_928 rfl)
theorem dL_law_959 : decode code 959 = .ok (.aload_n 0, 1) := do_42 (rdb (p := 928) (i := 31) ch_code_928 rfl)
theorem ch_code_960 : (code.data.toList.drop 960).take 36 = [29, 4, 96, 46, 42, 29, 5, 96, 46, 42, 29, 6, 96, 46, 42, 29, 7, 96, 46, 42, 29, 8, 96, 46, 182, 0, 101, 87, 44, 42, 29, 4, 96, 46, 42, 29] := by decide +kernel
theorem dL_law_960 : decode code 960 = .ok (.iload_n 3, 1) := do_29 (rdb (p := 960) (i := 0) ch_code_960 rfl)
theorem dL_law_961 : decode code 961 = .ok (.iconst 1, 1) := do_4 (rdb (p := 960) (i := 1) ch_code_960 rfl)
theorem dL_law_962 : decode code 962 = .ok (.iadd, 1) := do_96 (rdb (p := 960) (i := 2) ch_code_960 rfl)
theorem dL_law_963 : decode code 963 = .ok (.iaload, 1) := do_46 (rdb (p := 960) (i := 3) ch_code_960 rfl)
theorem dL_law_964 : decode code 964 = .ok (.aload_n 0, 1) := do_42 (rdb (p := 960) (i := 4) ch_code_960 rfl)
theorem dL_law_965 : decode code 965 = .ok (.iload_n 3, 1) := do_29 (rdb (p := 960) (i := 5) ch_code_960 rfl)
theorem dL_law_966 : decode code 966 = .ok (.iconst 2, 1) := do_5 (rdb (p := 960) (i := 6) ch_code_960 rfl)
theorem dL_law_967 : decode code 967 = .ok (.iadd, 1) := do_96 (rdb (p := 960) (i := 7) ch_code_960 rfl)
theorem dL_law_968 : decode code 968 = .ok (.iaload, 1) := do_46 (rdb (p := 960) (i := 8) ch_code_960 rfl)
theorem dL_law_969 : decode code 969 = .ok (.aload_n 0, 1) := do_42 (rdb (p := 960) (i := 9) ch_code_960 rfl)
theorem dL_law_970 : decode code 970 = .ok (.iload_n 3, 1) := do_29 (rdb (p := 960) (i := 10) ch_code_960 rfl)
theorem dL_law_971 : decode code 971 = .ok (.iconst 3, 1) := do_6 (rdb (p := 960) (i := 11) ch_code_960 rfl)
theorem dL_law_972 : decode code 972 = .ok (.iadd, 1) := do_96 (rdb (p := 960) (i := 12) ch_code_960 rfl)
theorem dL_law_973 : decode code 973 = .ok (.iaload, 1) := do_46 (rdb (p := 960) (i := 13) ch_code_960 rfl)
theorem dL_law_974 : decode code 974 = .ok (.aload_n 0, 1) := do_42 (rdb (p := 960) (i := 14) ch_code_960 rfl)
theorem dL_law_975 : decode code 975 = .ok (.iload_n 3, 1) := do_29 (rdb (p := 960) (i := 15) ch_code_960 rfl)
theorem dL_law_976 : decode code 976 = .ok (.iconst 4, 1) := do_7 (rdb (p := 960) (i := 16) ch_code_960 rfl)
theorem dL_law_977 : decode code 977 = .ok (.iadd, 1) := do_96 (rdb (p := 960) (i := 17) ch_code_960 rfl)
theorem dL_law_978 : decode code 978 = .ok (.iaload, 1) := do_46 (rdb (p := 960) (i := 18) ch_code_960 rfl)
theorem dL_law_979 : decode code 979 = .ok (.aload_n 0, 1) := do_42 (rdb (p := 960) (i := 19) ch_code_960 rfl)
theorem dL_law_980 : decode code 980 = .ok (.iload_n 3, 1) := do_29 (rdb (p := 960) (i := 20) ch_code_960 rfl)
theorem dL_law_981 : decode code 981 = .ok (.iconst 5, 1) := do_8 (rdb (p := 960) (i := 21) ch_code_960 rfl)
theorem dL_law_982 : decode code 982 = .ok (.iadd, 1) := do_96 (rdb (p := 960) (i := 22) ch_code_960 rfl)
theorem dL_law_983 : decode code 983 = .ok (.iaload, 1) := do_46 (rdb (p := 960) (i := 23) ch_code_960 rfl)
theorem dL_law_984 : decode code 984 = .ok (.invokevirtual 101, 3) := do_182 (rdb (p := 960) (i := 24) ch_code_960 rfl) (rdb (p := 960) (i := 25) ch_code_960 rfl) (rdb (p := 960) (i := 26) ch_code_960 rfl) rfl
theorem dL_law_987 : decode code 987 = .ok (.pop, 1) := do_87 (rdb (p := 960) (i := 27) ch_code_960 rfl)
theorem dL_law_988 : decode code 988 = .ok (.aload_n 2, 1) := do_44 (rdb (p := 960) (i := 28) ch_code_960 rfl)
theorem dL_law_989 : decode code 989 = .ok (.aload_n 0, 1) := do_42 (rdb (p := 960) (i := 29) ch_code_960 rfl)
theorem dL_law_990 : decode code 990 = .ok (.iload_n 3, 1) := do_29 (rdb (p := 960) (i := 30) ch_code_960 rfl)
theorem dL_law_991 : decode code 991 = .ok (.iconst 1, 1) := do_4 (rdb (p := 960) (i := 31) ch_code_960 rfl)
theorem ch_code_992 : (code.data.toList.drop 992).take 36 = [96, 46, 42, 29, 5, 96, 46, 42, 29, 6, 96, 46, 42, 29, 7, 96, 46, 42, 29, 8, 96, 46, 182, 0, 105, 87, 167, 2, 201, 43, 42, 29, 4, 96, 46, 42] := by decide +kernel
theorem dL_law_992 : decode code 992 = .ok (.iadd, 1) := do_96 (rdb (p := 992) (i := 0) ch_code_992 rfl)
theorem dL_law_993 : decode code 993 = .ok (.iaload, 1) := do_46 (rdb (p := 992) (i := 1) ch_code_992 rfl)
theorem dL_law_994 : decode code 994 = .ok (.aload_n 0, 1) := do_42 (rdb (p := 992) (i := 2) ch_code_992 rfl)
theorem dL_law_995 : decode code 995 = .ok (.iload_n 3, 1) := do_29 (rdb (p := 992) (i := 3) ch_code_992 rfl)
theorem dL_law_996 : decode code 996 = .ok (.iconst 2, 1) := do_5 (rdb (p := 992) (i := 4) ch_code_992 rfl)
theorem dL_law_997 : decode code 997 = .ok (.iadd, 1) := do_96 (rdb (p := 992) (i := 5) ch_code_992 rfl)
theorem dL_law_998 : decode code 998 = .ok (.iaload, 1) := do_46 (rdb (p := 992) (i := 6) ch_code_992 rfl)
theorem dL_law_999 : decode code 999 = .ok (.aload_n 0, 1) := do_42 (rdb (p := 992) (i := 7) ch_code_992 rfl)
theorem dL_law_1000 : decode code 1000 = .ok (.iload_n 3, 1) := do_29 (rdb (p := 992) (i := 8) ch_code_992 rfl)
theorem dL_law_1001 : decode code 1001 = .ok (.iconst 3, 1) := do_6 (rdb (p := 992) (i := 9) ch_code_992 rfl)
theorem dL_law_1002 : decode code 1002 = .ok (.iadd, 1) := do_96 (rdb (p := 992) (i := 10) ch_code_992 rfl)
theorem dL_law_1003 : decode code 1003 = .ok (.iaload, 1) := do_46 (rdb (p := 992) (i := 11) ch_code_992 rfl)
theorem dL_law_1004 : decode code 1004 = .ok (.aload_n 0, 1) := do_42 (rdb (p := 992) (i := 12) ch_code_992 rfl)
theorem dL_law_1005 : decode code 1005 = .ok (.iload_n 3, 1) := do_29 (rdb (p := 992) (i := 13) ch_code_992 rfl)
theorem dL_law_1006 : decode code 1006 = .ok (.iconst 4, 1) := do_7 (rdb (p := 992) (i := 14) ch_code_992 rfl)
theorem dL_law_1007 : decode code 1007 = .ok (.iadd, 1) := do_96 (rdb (p := 992) (i := 15) ch_code_992 rfl)
theorem dL_law_1008 : decode code 1008 = .ok (.iaload, 1) := do_46 (rdb (p := 992) (i := 16) ch_code_992 rfl)
theorem dL_law_1009 : decode code 1009 = .ok (.aload_n 0, 1) := do_42 (rdb (p := 992) (i := 17) ch_code_992 rfl)
theorem dL_law_1010 : decode code 1010 = .ok (.iload_n 3, 1) := do_29 (rdb (p := 992) (i := 18) ch_code_992 rfl)
theorem dL_law_1011 : decode code 1011 = .ok (.iconst 5, 1) := do_8 (rdb (p := 992) (i := 19) ch_code_992 rfl)
theorem dL_law_1012 : decode code 1012 = .ok (.iadd, 1) := do_96 (rdb (p := 992) (i := 20) ch_code_992 rfl)
theorem dL_law_1013 : decode code 1013 = .ok (.iaload, 1) := do_46 (rdb (p := 992) (i := 21) ch_code_992 rfl)
theorem dL_law_1014 : decode code 1014 = .ok (.invokevirtual 105, 3) := do_182 (rdb (p := 992) (i := 22) ch_code_992 rfl) (rdb (p := 992) (i := 23) ch_code_992 rfl) (rdb (p := 992) (i := 24) ch_code_992 rfl) rfl
theorem dL_law_1017 : decode code 1017 = .ok (.pop, 1) := do_87 (rdb (p := 992) (i := 25) ch_code_992 rfl)
theorem dL_law_1018 : decode code 1018 = .ok (.goto 713, 3) := do_167 (rdb (p := 992) (i := 26) ch_code_992 rfl) (rdb (p := 992) (i := 27) ch_code_992 rfl) (rdb (p := 992) (i := 28) ch_code_992 rfl) (by decide +kernel)
theorem dL_law_1021 : decode code 1021 = .ok (.aload_n 1, 1) := do_43 (rdb (p := 992) (i := 29) ch_code_992 rfl)
theorem dL_law_1022 : decode code 1022 = .ok (.aload_n 0, 1) := do_42 (rdb (p := 992) (i := 30) ch_code_992 rfl)
theorem dL_law_1023 : decode code 1023 = .ok (.iload_n 3, 1) := do_29 (rdb (p := 992) (i := 31) ch_code_992 rfl)
theorem ch_code_1024 : (code.data.toList.drop 1024).take 36 = [4, 96, 46, 42, 29, 5, 96, 46, 42, 29, 6, 96, 46, 42, 29, 7, 96, 46, 182, 0, 106, 87, 44, 42, 29, 4, 96, 46, 42, 29, 5, 96, 46, 42, 29, 6] := by decide +kernel
theorem dL_law_1024 : decode code 1024 = .ok (.iconst 1, 1) := do_4 (rdb (p := 1024) (i := 0) ch_code_1024 rfl)
theorem dL_law_1025 : decode code 1025 = .ok (.iadd, 1) := do_96 (rdb (p := 1024) (i := 1) ch_code_1024 rfl)
theorem dL_law_1026 : decode code 1026 = .ok (.iaload, 1) := do_46 (rdb (p := 1024) (i := 2) ch_code_1024 rfl)
theorem dL_law_1027 : decode code 1027 = .ok (.aload_n 0, 1) := do_42 (rdb (p := 1024) (i := 3) ch_code_1024 rfl)
theorem dL_law_1028 : decode code 1028 = .ok (.iload_n 3, 1) := do_29 (rdb (p := 1024) (i := 4) ch_code_1024 rfl)
theorem dL_law_1029 : decode code 1029 = .ok (.iconst 2, 1) := do_5 (rdb (p := 1024) (i := 5) ch_code_1024 rfl)
theorem dL_law_1030 : decode code 1030 = .ok (.iadd, 1) := do_96 (rdb (p := 1024) (i := 6) ch_code_1024 rfl)
theorem dL_law_1031 : decode code 1031 = .ok (.iaload, 1) := do_46 (rdb (p := 1024) (i := 7) ch_code_1024 rfl)
theorem dL_law_1032 : decode code 1032 = .ok (.aload_n 0, 1) := do_42 (rdb (p := 1024) (i := 8) ch_code_1024 rfl)
theorem dL_law_1033 : decode code 1033 = .ok (.iload_n 3, 1) := do_29 (rdb (p := 1024) (i := 9) ch_code_1024 rfl)
theorem dL_law_1034 : decode code 1034 = .ok (.iconst 3, 1) := do_6 (rdb (p := 1024) (i := 10) ch_code_1024 rfl)
theorem dL_law_1035 : decode code 1035 = .ok (.iadd, 1) := do_96 (rdb (p := 1024) (i := 11) ch_code_1024 rfl)
theorem dL_law_1036 : decode code 1036 = .ok (.iaload, 1) := do_46 (rdb (p := 1024) (i := 12) ch_code_1024 rfl)
theorem dL_law_1037 : decode code 1037 = .ok (.aload_n 0, 1) := do_42 (rdb (p := 1024) (i := 13) ch_code_1024 rfl)
theorem dL_law_1038 : decode code 1038 = .ok (.iload_n 3, 1) := do_29 (rdb (p := 1024) (i := 14) ch_code_1024 rfl)
theorem dL_law_1039 : decode code 1039 = .ok (.iconst 4, 1) := do_7 (rdb (p := 1024) (i := 15) ch_code_1024 rfl)
theorem dL_law_1040 : decode code 1040 = .ok (.iadd, 1) := do_96 (rdb (p := 1024) (i := 16) ch_code_1024 rfl)
theorem dL_law_1041 : decode code 1041 = .ok (.iaload, 1) := do_46 (rdb (p := 1024) (i := 17) ch_code_1024 rfl)
theorem dL_law_1042 : decode code 1042 = .ok (.invokevirtual 106, 3) := do_182 (rdb (p := 1024) (i := 18) ch_code_1024 rfl) (rdb (p := 1024) (i := 19) ch_code_1024 rfl) (rdb (p := 1024) (i := 20) ch_code_1024 rfl) rfl
theorem dL_law_1045 : decode code 1045 = .ok (.pop, 1) := do_87 (rdb (p := 1024) (i := 21) ch_code_1024 rfl)
theorem dL_law_1046 : decode code 1046 = .ok (.aload_n 2, 1) := do_44 (rdb (p := 1024) (i := 22) ch_code_1024 rfl)
theorem dL_law_1047 : decode code 1047 = .ok (.aload_n 0, 1) := do_42 (rdb (p := 1024) (i := 23) ch_code_1024 rfl)
theorem dL_law_1048 : decode code 1048 = .ok (.iload_n 3, 1) := do_29 (rdb (p := 1024) (i := 24) ch_code_1024 rfl)
theorem dL_law_1049 : decode code 1049 = .ok (.iconst 1, 1) := do_4 (rdb (p := 1024) (i := 25) ch_code_1024 rfl)
theorem dL_law_1050 : decode code 1050 = .ok (.iadd, 1) := do_96 (rdb (p := 1024) (i := 26) ch_code_1024 rfl)
theorem dL_law_1051 : decode code 1051 = .ok (.iaload, 1) := do_46 (rdb (p := 1024) (i := 27) ch_code_1024 rfl)
theorem dL_law_1052 : decode code 1052 = .ok (.aload_n 0, 1) := do_42 (rdb (p := 1024) (i := 28) ch_code_1024 rfl)
theorem dL_law_1053 : decode code 1053 = .ok (.iload_n 3, 1) := do_29 (rdb (p := 1024) (i := 29) ch_code_1024 rfl)
theorem dL_law_1054 : decode code 1054 = .ok (.iconst 2, 1) := do_5 (rdb (p := 1024) (i := 30) ch_code_1024 rfl)
theorem dL_law_1055 : decode code 1055 = .ok (.iadd, 1) := do_96 (rdb (p := 1024) (i := 31) ch_code_1024 rfl)
theorem ch_code_1056 : (code.data.toList.drop 1056).take 36 = [46, 42, 29, 6, 96, 46, 42, 29, 7, 96, 46, 182, 0, 109, 87, 167, 2, 148, 43, 42, 29, 4, 96, 46, 42, 29, 5, 96, 46, 42, 29, 6, 96, 46, 182, 0] := by decide +kernel
theorem dL_law_1056 : decode code 1056 = .ok (.iaload, 1) := do_46 (rdb (p := 1056) (i := 0) ch_code_1056 rfl)
theorem dL_law_1057 : decode code 1057 = .ok (.aload_n 0, 1) := do_42 (rdb (p := 1056) (i := 1) ch_code_1056 rfl)
theorem dL_law_1058 : decode code 1058 = .ok (.iload_n 3, 1) := do_29 (rdb (p := 1056) (i := 2) ch_code_1056 rfl)
theorem dL_law_1059 : decode code 1059 = .ok (.iconst 3, 1) := do_6 (rdb (p := 1056) (i := 3) ch_code_1056 rfl)
theorem dL_law_1060 : decode code 1060 = .ok (.iadd, 1) := do_96 (rdb (p := 1056) (i := 4) ch_code_1056 rfl)
theorem dL_law_1061 : decode code 1061 = .ok (.iaload, 1) := do_46 (rdb (p := 1056) (i := 5) ch_code_1056 rfl)
theorem dL_law_1062 : decode code 1062 = .ok (.aload_n 0, 1) := do_42 (rdb (p := 1056) (i := 6) ch_code_1056 rfl)
theorem dL_law_1063 : decode code 1063 = .ok (.iload_n 3, 1) := do_29 (rdb (p := 1056) (i := 7) ch_code_1056 rfl)
theorem dL_law_1064 : decode code 1064 = .ok (.iconst 4, 1) := do_7 (rdb (p := 1056) (i := 8) ch_code_1056 rfl)
theorem dL_law_1065 : decode code 1065 = .ok (.iadd, 1) := do_96 (rdb (p := 1056) (i := 9) ch_code_1056 rfl)
theorem dL_law_1066 : decode code 1066 = .ok (.iaload, 1) := do_46 (rdb (p := 1056) (i := 10) ch_code_1056 rfl)
theorem dL_law_1067 : decode code 1067 = .ok (.invokevirtual 109, 3) := do_182 (rdb (p := 1056) (i := 11) ch_code_1056 rfl) (rdb (p := 1056) (i := 12) ch_code_1056 rfl) (rdb (p := 1056) (i := 13) ch_code_1056 rfl) rfl
theorem dL_law_1070 : decode code 1070 = .ok (.pop, 1) := do_87 (rdb (p := 1056) (i := 14) ch_code_1056 rfl)
theorem dL_law_1071 : decode code 1071 = .ok (.goto 660, 3) := do_167 (rdb (p := 1056) (i := 15) ch_code_1056 rfl) (rdb (p := 1056) (i := 16) ch_code_1056 rfl) (rdb (p := 1056) (i := 17) ch_code_1056 rfl) (by decide +kernel)
theorem dL_law_1074 : decode code 1074 = .ok (.aload_n 1, 1) := do_43 (rdb (p := 1056) (i := 18) ch_code_1056 rfl)
theorem dL_law_1075 : decode code 1075 = .ok (.aload_n 0, 1) := do_42 (rdb (p := 1056) (i := 19) ch_code_1056 rfl)
theorem dL_law_1076 : decode code 1076 = .ok (.iload_n 3, 1) := do_29 (rdb (p := 1056) (i := 20) ch_code_1056 rfl)
theorem dL_law_1077 : decode code 1077 = .ok (.iconst 1, 1) := do_4 (rdb (p := 1056) (i := 21) ch_code_1056 rfl)
theorem dL_law_1078 : decode code 1078 = .ok (.iadd, 1) := do_96 (rdb (p := 1056) (i := 22) ch_code_1056 rfl)
theorem dL_law_1079 : decode code 1079 = .ok (.iaload, 1) := do_46 (rdb (p := 1056) (i := 23) ch_code_1056 rfl)
theorem dL_law_1080 : decode code 1080 = .ok (.aload_n 0, 1) := do_42 (rdb (p := 1056) (i := 24) ch_code_1056 rfl)
theorem dL_law_1081 : decode code 1081 = .ok (.iload_n 3, 1) := do_29 (rdb (p := 1056) (i := 25) ch_code_1056 rfl)
theorem dL_law_1082 : decode code 1082 = .ok (.iconst 2, 1) := do_5 (rdb (p := 1056) (i := 26) ch_code_1056 rfl)
theorem dL_law_1083 : decode code 1083 = .ok (.iadd, 1) := do_96 (rdb (p := 1056) (i := 27) ch_code_1056 rfl)
theorem dL_law_1084 : decode code 1084 = .ok (.iaload, 1) := do_46 (rdb (p := 1056) (i := 28) ch_code_1056 rfl)
theorem dL_law_1085 : decode code 1085 = .ok (.aload_n 0, 1) := do_42 (rdb (p := 1056) (i := 29) ch_code_1056 rfl)
theorem dL_law_1086 : decode code 1086 = .ok (.iload_n 3, 1) := do_29 (rdb (p := 1056) (i := 30) ch_code_1056 rfl)
theorem dL_law_1087 : decode code 1087 = .ok (.iconst 3, 1) := do_6 (rdb (p := 1056) (i := 31) ch_code_1056 rfl)
theorem ch_code_1088 : (code.data.toList.drop 1088).take 36 = [96, 46, 182, 0, 110, 87, 44, 42, 29, 4, 96, 46, 42, 29, 5, 96, 46, 42, 29, 6, 96, 46, 182, 0, 113, 87, 167, 2, 105, 43, 42, 29, 4, 96, 46, 42] := by decide +kernel
theorem dL_law_1088 : decode code 1088 = .ok (.iadd, 1) := do_96 (rdb (p := 1088) (i := 0) ch_code_1088 rfl)
theorem dL_law_1089 : decode code 1089 = .ok (.iaload, 1) := do_46 (rdb (p := 1088) (i := 1) ch_code_1088 rfl)
theorem dL_law_1090 : decode code 1090 = .ok (.invokevirtual 110, 3) := do_182 (rdb (p := 1088) (i := 2) ch_code_1088 rfl) (rdb (p := 1088) (i := 3) ch_code_1088 rfl) (rdb (p := 1088) (i := 4) ch_code_1088 rfl) rfl
theorem dL_law_1093 : decode code 1093 = .ok (.pop, 1) := do_87 (rdb (p := 1088) (i := 5) ch_code_1088 rfl)
theorem dL_law_1094 : decode code 1094 = .ok (.aload_n 2, 1) := do_44 (rdb (p := 1088) (i := 6) ch_code_1088 rfl)
theorem dL_law_1095 : decode code 1095 = .ok (.aload_n 0, 1) := do_42 (rdb (p := 1088) (i := 7) ch_code_1088 rfl)
theorem dL_law_1096 : decode code 1096 = .ok (.iload_n 3, 1) := do_29 (rdb (p := 1088) (i := 8) ch_code_1088 rfl)
theorem dL_law_1097 : decode code 1097 = .ok (.iconst 1, 1) := do_4 (rdb (p := 1088) (i := 9) ch_code_1088 rfl)
theorem dL_law_1098 : decode code 1098 = .ok (.iadd, 1) := do_96 (rdb (p := 1088) (i := 10) ch_code_1088 rfl)
theorem dL_law_1099 : decode code 1099 = .ok (.iaload, 1) := do_46 (rdb (p := 1088) (i := 11) ch_code_1088 rfl)
theorem dL_law_1100 : decode code 1100 = .ok (.aload_n 0, 1) := do_42 (rdb (p := 1088) (i := 12) ch_code_1088 rfl)
theorem dL_law_1101 : decode code 1101 = .ok (.iload_n 3, 1) := do_29 (rdb (p := 1088) (i := 13) ch_code_1088 rfl)
theorem dL_law_1102 : decode code 1102 = .ok (.iconst 2, 1) := do_5 (rdb (p := 1088) (i := 14) ch_code_1088 rfl)
theorem dL_law_1103 : decode code 1103 = .ok (.iadd, 1) := do_96 (rdb (p := 1088) (i := 15) ch_code_1088 rfl)
theorem dL_law_1104 : decode code 1104 = .ok (.iaload, 1) := do_46 (rdb (p := 1088) (i := 16) ch_code_1088 rfl)
theorem dL_law_1105 : decode code 1105 = .ok (.aload_n 0, 1) := do_42 (rdb (p := 1088) (i := 17) ch_code_1088 rfl)
theorem dL_law_1106 : decode code 1106 = .ok (.iload_n 3, 1) := do_29 (rdb (p := 1088) (i := 18) ch_code_1088 rfl)
theorem dL_law_1107 : decode code 1107 = .ok (.iconst 3, 1) := do_6 (rdb (p := 1088) (i := 19) ch_code_1088 rfl)
theorem dL_law_1108 : decode code 1108 = .ok (.iadd, 1) := do_96 (rdb (p := 1088) (i := 20) ch_code_1088 rfl)
theorem dL_law_1109 : decode code 1109 = .ok (.iaload, 1) := do_46 (rdb (p := 1088) (i := 21) ch_code_1088 rfl)
theorem dL_law_1110 : decode code 1110 = .ok (.invokevirtual 113, 3) := do_182 (rdb (p := 1088) (i := 22) ch_code_1088 rfl) (rdb (p := 1088) (i := 23) ch_code_1088 rfl) (rdb (p := 1088) (i := 24) ch_code_1088 rfl) rfl
theorem dL_law_1113 : decode code 1113 = .ok (.pop, 1) := do_87 (rdb (p := 1088) (i := 25) ch_code_1088 rfl)
theorem dL_law_1114 : decode code 1114 = .ok (.goto 617, 3) := do_167 (rdb (p := 1088) (i := 26) ch_code_1088 rfl) (rdb (p := 1088) (i := 27) ch_code_1088 rfl) (rdb (p := 1088) (i := 28) ch_code_1088 rfl) (by decide +kernel)
theorem dL_law_1117 : decode code 1117 = .ok (.aload_n 1, 1) := do_43 (rdb (p := 1088) (i := 29) ch_code_1088 rfl)
theorem dL_law_1118 : decode code 1118 = .ok (.aload_n 0, 1) := do_42 (rdb (p := 1088) (i := 30) ch_code_1088 rfl)
theorem dL_law_1119 : decode code 1119 = .ok (.iload_n 3, 1) := do_29 (rdb (p := 1088) (i := 31) ch_code_1088 rfl)
theorem ch_code_1120 : (code.data.toList.drop 1120).take 36 = [4, 96, 46, 42, 29, 5, 96, 46, 42, 29, 6, 96, 46, 42, 29, 7, 96, 46, 182, 0, 114, 87, 44, 42, 29, 4, 96, 46, 42, 29, 5, 96, 46, 42, 29, 6] := by decide +kernel
theorem dL_law_1120 : decode code 1120 = .ok (.iconst 1, 1) := do_4 (rdb (p := 1120) (i := 0) ch_code_1120 rfl)
theorem dL_law_1121 : decode code 1121 = .ok (.iadd, 1) := do_96 (rdb (p := 1120) (i := 1) ch_code_1120 rfl)
theorem dL_law_1122 : decode code 1122 = .ok (.iaload, 1) := do_46 (rdb (p := 1120) (i := 2) ch_code_1120 rfl)
theorem dL_law_1123 : decode code 1123 = .ok (.aload_n 0, 1) := do_42 (rdb (p := 1120) (i := 3) ch_code_1120 rfl)
theorem dL_law_1124 : decode code 1124 = .ok (.iload_n 3, 1) := do_29 (rdb (p := 1120) (i := 4) ch_code_1120 rfl)
theorem dL_law_1125 : decode code 1125 = .ok (.iconst 2, 1) := do_5 (rdb (p := 1120) (i := 5) ch_code_1120 rfl)
theorem dL_law_1126 : decode code 1126 = .ok (.iadd, 1) := do_96 (rdb (p := 1120) (i := 6) ch_code_1120 rfl)
theorem dL_law_1127 : decode code 1127 = .ok (.iaload, 1) := do_46 (rdb (p := 1120) (i := 7) ch_code_1120 rfl)
theorem dL_law_1128 : decode code 1128 = .ok (.aload_n 0, 1) := do_42 (rdb (p := 1120) (i := 8) ch_code_1120 rfl)
theorem dL_law_1129 : decode code 1129 = .ok (.iload_n 3, 1) := do_29 (rdb (p := 1120) (i := 9) ch_code_1120 rfl)
theorem dL_law_1130 : decode code 1130 = .ok (.iconst 3, 1) := do_6 (rdb (p := 1120) (i := 10) ch_code_1120 rfl)
theorem dL_law_1131 : decode code 1131 = .ok (.iadd, 1) := do_96 (rdb (p := 1120) (i := 11) ch_code_1120 rfl)
theorem dL_law_1132 : decode code 1132 = .ok (.iaload, 1) := do_46 (rdb (p := 1120) (i := 12) ch_code_1120 rfl)
theorem dL_law_1133 : decode code 1133 = .ok (.aload_n 0, 1) := do_42 (rdb (p := 1120) (i := 13) ch_code_1120 rfl)
theorem dL_law_1134 : decode code 1134 = .ok (.iload_n 3, 1) := do_29 (rdb (p := 1120) (i := 14) ch_code_1120 rfl)
theorem dL_law_1135 : decode code 1135 = .ok (.iconst 4, 1) := do_7 (rdb (p := 1120) (i := 15) ch_code_1120 rfl)
theorem dL_law_1136 : decode code 1136 = .ok (.iadd, 1) := do_96 (rdb (p := 1120) (i := 16) ch_code_1120 rfl)
theorem dL_law_1137 : decode code 1137 = .ok (.iaload, 1) := do_46 (rdb (p := 1120) (i := 17) ch_code_1120 rfl)
theorem dL_law_1138 : decode code 1138 = .ok (.invokevirtual 114, 3) := do_182 (rdb (p := 1120) (i := 18) ch_code_1120 rfl) (rdb (p := 1120) (i := 19) ch_code_1120 rfl) (rdb (p := 1120) (i := 20) ch_code_1120 rfl) rfl
theorem dL_law_1141 : decode code 1141 = .ok (.pop, 1) := do_87 (rdb (p := 1120) (i := 21) ch_code_1120 rfl)
theorem dL_law_1142 : decode code 1142 = .ok (.aload_n 2, 1) := do_44 (rdb (p := 1120) (i := 22) ch_code_1120 rfl)
theorem dL_law_1143 : decode code 1143 = .ok (.aload_n 0, 1) := do_42 (rdb (p := 1120) (i := 23) ch_code_1120 rfl)
theorem dL_law_1144 : decode code 1144 = .ok (.iload_n 3, 1) := do_29 (rdb (p := 1120) (i := 24) ch_code_1120 rfl)
theorem dL_law_1145 : decode code 1145 = .ok (.iconst 1, 1) := do_4 (rdb (p := 1120) (i := 25) ch_code_1120 rfl)
theorem dL_law_1146 : decode code 1146 = .ok (.iadd, 1) := do_96 (rdb (p := 1120) (i := 26) ch_code_1120 rfl)
theorem dL_law_1147 : decode code 1147 = .ok (.iaload, 1) := do_46 (rdb (p := 1120) (i := 27) ch_code_1120 rfl)
theorem dL_law_1148 : decode code 1148 = .ok (.aload_n 0, 1) := do_42 (rdb (p := 1120) (i := 28) ch_code_1120 rfl)
theorem dL_law_1149 : decode code 1149 = .ok (.iload_n 3, 1) := do_29 (rdb (p := 1120) (i := 29) ch_code_1120 rfl)
theorem dL_law_1150 : decode code 1150 = .ok (.iconst 2, 1) := do_5 (rdb (p := 1120) (i := 30) ch_code_1120 rfl)
theorem dL_law_1151 : decode code 1151 = .ok (.iadd, 1) := do_96 (rdb (p := 1120) (i := 31) ch_code_1120 rfl)
theorem ch_code_1152 : (code.data.toList.drop 1152).take 36 = [46, 42, 29, 6, 96, 46, 42, 29, 7, 96, 46, 182, 0, 117, 87, 167, 2, 52, 43, 42, 29, 4, 96, 46, 182, 0, 118, 87, 44, 42, 29, 4, 96, 46, 182, 0] := by decide +kernel
theorem dL_law_1152 : decode code 1152 = .ok (.iaload, 1) := do_46 (rdb (p := 1152) (i := 0) ch_code_1152 rfl)
theorem dL_law_1153 : decode code 1153 = .ok (.aload_n 0, 1) := do_42 (rdb (p := 1152) (i := 1) ch_code_1152 rfl)
theorem dL_law_1154 : decode code 1154 = .ok (.iload_n 3, 1) := do_29 (rdb (p := 1152) (i := 2) ch_code_1152 rfl)
theorem dL_law_1155 : decode code 1155 = .ok (.iconst 3, 1) := do_6 (rdb (p := 1152) (i := 3) ch_code_1152 rfl)
theorem dL_law_1156 : decode code 1156 = .ok (.iadd, 1) := do_96 (rdb (p := 1152) (i := 4) ch_code_1152 rfl)
theorem dL_law_1157 : decode code 1157 = .ok (.iaload, 1) := do_46 (rdb (p := 1152) (i := 5) ch_code_1152 rfl)
theorem dL_law_1158 : decode code 1158 = .ok (.aload_n 0, 1) := do_42 (rdb (p := 1152) (i := 6) ch_code_1152 rfl)
theorem dL_law_1159 : decode code 1159 = .ok (.iload_n 3, 1) := do_29 (rdb (p := 1152) (i := 7) ch_code_1152 rfl)
theorem dL_law_1160 : decode code 1160 = .ok (.iconst 4, 1) := do_7 (rdb (p := 1152) (i := 8) ch_code_1152 rfl)
theorem dL_law_1161 : decode code 1161 = .ok (.iadd, 1) := do_96 (rdb (p := 1152) (i := 9) ch_code_1152 rfl)
theorem dL_law_1162 : decode code 1162 = .ok (.iaload, 1) := do_46 (rdb (p := 1152) (i := 10) ch_code_1152 rfl)
theorem dL_law_1163 : decode code 1163 = .ok (.invokevirtual 117, 3) := do_182 (rdb (p := 1152) (i := 11) ch_code_1152 rfl) (rdb (p := 1152) (i := 12) ch_code_1152 rfl) (rdb (p := 1152) (i := 13) ch_code_1152 rfl) rfl
theorem dL_law_1166 : decode code 1166 = .ok (.pop, 1) := do_87 (rdb (p := 1152) (i := 14) ch_code_1152 rfl)
theorem dL_law_1167 : decode code 1167 = .ok (.goto 564, 3) := do_167 (rdb (p := 1152) (i := 15) ch_code_1152 rfl) (rdb (p := 1152) (i := 16) ch_code_1152 rfl) (rdb (p := 1152) (i := 17) ch_code_1152 rfl) (by decide +kernel)
theorem dL_law_1170 : decode code 1170 = .ok (.aload_n 1, 1) := do_43 (rdb (p := 1152) (i := 18) ch_code_1152 rfl)
theorem dL_law_1171 : decode code 1171 = .ok (.aload_n 0, 1) := do_42 (rdb (p := 1152) (i := 19) ch_code_1152 rfl)
theorem dL_law_1172 : decode code 1172 = .ok (.iload_n 3, 1) := do_29 (rdb (p := 1152) (i := 20) ch_code_1152 rfl)
theorem dL_law_1173 : decode code 1173 = .ok (.iconst 1, 1) := do_4 (rdb (p := 1152) (i := 21) ch_code_1152 rfl)
theorem dL_law_1174 : decode code 1174 = .ok (.iadd, 1) := do_96 (rdb (p := 1152) (i := 22) ch_code_1152 rfl)
theorem dL_law_1175 : decode code 1175 = .ok (.iaload, 1) := do_46 (rdb (p := 1152) (i := 23) ch_code_1152 rfl)
theorem dL_law_1176 : decode code 1176 = .ok (.invokevirtual 118, 3) := do_182 (rdb (p := 1152) (i := 24) ch_code_1152 rfl) (rdb (p := 1152) (i := 25) ch_code_1152 rfl) (rdb (p := 1152) (i := 26) ch_code_1152 rfl) rfl
theorem dL_law_1179 : decode code 1179 = .ok (.pop, 1) := do_87 (rdb (p := 1152) (i := 27) ch_code_1152 rfl)
theorem dL_law_1180 : decode code 1180 = .ok (.aload_n 2, 1) := do_44 (rdb (p := 1152) (i := 28) ch_code_1152 rfl)
theorem dL_law_1181 : decode code 1181 = .ok (.aload_n 0, 1) := do_42 (rdb (p := 1152) (i := 29) ch_code_1152 rfl)
theorem dL_law_1182 : decode code 1182 = .ok (.iload_n 3, 1) := do_29 (rdb (p := 1152) (i := 30) ch_code_1152 rfl)
theorem dL_law_1183 : decode code 1183 = .ok (.iconst 1, 1) := do_4 (rdb (p := 1152) (i := 31) ch_code_1152 rfl)
theorem ch_code_1184 : (code.data.toList.drop 1184).take 36 = [96, 46, 182, 0, 121, 87, 167, 2, 29, 43, 42, 29, 4, 96, 46, 42, 29, 5, 96, 46, 42, 29, 6, 96, 46, 182, 0, 122, 87, 44, 42, 29, 4, 96, 46, 42] := by decide +kernel
theorem dL_law_1184 : decode code 1184 = .ok (.iadd, 1) := do_96 (rdb (p := 1184) (i := 0) ch_code_1184 rfl)
theorem dL_law_1185 : decode code 1185 = .ok (.iaload, 1) := do_46 (rdb (p := 1184) (i := 1) ch_code_1184 rfl)
theorem dL_law_1186 : decode code 1186 = .ok (.invokevirtual 121, 3) := do_182 (rdb (p := 1184) (i := 2) ch_code_1184 rfl) (rdb (p := 1184) (i := 3) ch_code_1184 rfl) (rdb (p := 1184) (i := 4) ch_code_1184 rfl) rfl
theorem dL_law_1189 : decode code 1189 = .ok (.pop, 1) := do_87 (rdb (p := 1184) (i := 5) ch_code_1184 rfl)
theorem dL_law_1190 : decode code 1190 = .ok (.goto 541, 3) := do_167 (rdb (p := 1184) (i := 6) ch_code_1184 rfl) (rdb (p := 1184) (i := 7) ch_code_1184 rfl) (rdb (p := 1184) (i := 8) ch_code_1184 rfl) (by decide +kernel)
theorem dL_law_1193 : decode code 1193 = .ok (.aload_n 1, 1) := do_43 (rdb (p := 1184) (i := 9) ch_code_1184 rfl)
theorem dL_law_1194 : decode code 1194 = .ok (.aload_n 0, 1) := do_42 (rdb (p := 1184) (i := 10) ch_code_1184 rfl)
theorem dL_law_1195 : decode code 1195 = .ok (.iload_n 3, 1) := do_29 (rdb (p := 1184) (i := 11) ch_code_1184 rfl)
theorem dL_law_1196 : decode code 1196 = .ok (.iconst 1, 1) := do_4 (rdb (p := 1184) (i := 12) ch_code_1184 rfl)
theorem dL_law_1197 : decode code 1197 = .ok (.iadd, 1) := do_96 (rdb (p := 1184) (i := 13) ch_code_1184 rfl)
theorem dL_law_1198 : decode code 1198 = .ok (.iaload, 1) := do_46 (rdb (p := 1184) (i := 14) ch_code_1184 rfl)
theorem dL_law_1199 : decode code 1199 = .ok (.aload_n 0, 1) := do_42 (rdb (p := 1184) (i := 15) ch_code_1184 rfl)
theorem dL_law_1200 : decode code 1200 = .ok (.iload_n 3, 1) := do_29 (rdb (p := 1184) (i := 16) ch_code_1184 rfl)
theorem dL_law_1201 : decode code 1201 = .ok (.iconst 2, 1) := do_5 (rdb (p := 1184) (i := 17) ch_code_1184 rfl)
theorem dL_law_1202 : decode code 1202 = .ok (.iadd, 1) := do_96 (rdb (p := 1184) (i := 18) ch_code_1184 rfl)
theorem dL_law_1203 : decode code 1203 = .ok (.iaload, 1) := do_46 (rdb (p := 1184) (i := 19) ch_code_1184 rfl)
theorem dL_law_1204 : decode code 1204 = .ok (.aload_n 0, 1) := do_42 (rdb (p := 1184) (i := 20) ch_code_1184 rfl)
theorem dL_law_1205 : decode code 1205 = .ok (.iload_n 3, 1) := do_29 (rdb (p := 1184) (i := 21) ch_code_1184 rfl)
theorem dL_law_1206 : decode code 1206 = .ok (.iconst 3, 1) := do_6 (rdb (p := 1184) (i := 22) ch_code_1184 rfl)
theorem dL_law_1207 : decode code 1207 = .ok (.iadd, 1) := do_96 (rdb (p := 1184) (i := 23) ch_code_1184 rfl)
theorem dL_law_1208 : decode code 1208 = .ok (.iaload, 1) := do_46 (rdb (p := 1184) (i := 24) ch_code_1184 rfl)
theorem dL_law_1209 : decode code 1209 = .ok (.invokevirtual 122, 3) := do_182 (rdb (p := 1184) (i := 25) ch_code_1184 rfl) (rdb (p := 1184) (i := 26) ch_code_1184 rfl) (rdb (p := 1184) (i := 27) ch_code_1184 rfl) rfl
theorem dL_law_1212 : decode code 1212 = .ok (.pop, 1) := do_87 (rdb (p := 1184) (i := 28) ch_code_1184 rfl)
theorem dL_law_1213 : decode code 1213 = .ok (.aload_n 2, 1) := do_44 (rdb (p := 1184) (i := 29) ch_code_1184 rfl)
theorem dL_law_1214 : decode code 1214 = .ok (.aload_n 0, 1) := do_42 (rdb (p := 1184) (i := 30) ch_code_1184 rfl)
theorem dL_law_1215 : decode code 1215 = .ok (.iload_n 3, 1) := do_29 (rdb (p := 1184) (i := 31) ch_code_1184 rfl)
theorem ch_code_1216 : (code.data.toList.drop 1216).take 36 = [4, 96, 46, 42, 29, 5, 96, 46, 42, 29, 6, 96, 46, 182, 0, 125, 87, 167, 1, 242, 43, 42, 29, 4, 96, 46, 182, 0, 126, 87, 44, 42, 29, 4, 96, 46] := by decide +kernel
theorem dL_law_1216 : decode code 1216 = .ok (.iconst 1, 1) := do_4 (rdb (p := 1216) (i := 0) ch_code_1216 rfl)
theorem dL_law_1217 : decode code 1217 = .ok (.iadd, 1) := do_96 (rdb (p := 1216) (i := 1) ch_code_1216 rfl)
theorem dL_law_1218 : decode code 1218 = .ok (.iaload, 1) := do_46 (rdb (p := 1216) (i := 2) ch_code_1216 rfl)
theorem dL_law_1219 : decode code 1219 = .ok (.aload_n 0, 1) := do_42 (rdb (p := 1216) (i := 3) ch_code_1216 rfl)
theorem dL_law_1220 : decode code 1220 = .ok (.iload_n 3, 1) := do_29 (rdb (p := 1216) (i := 4) ch_code_1216 rfl)
theorem dL_law_1221 : decode code 1221 = .ok (.iconst 2, 1) := do_5 (rdb (p := 1216) (i := 5) ch_code_1216 rfl)
theorem dL_law_1222 : decode code 1222 = .ok (.iadd, 1) := do_96 (rdb (p := 1216) (i := 6) ch_code_1216 rfl)
theorem dL_law_1223 : decode code 1223 = .ok (.iaload, 1) := do_46 (rdb (p := 1216) (i := 7) ch_code_1216 rfl)
theorem dL_law_1224 : decode code 1224 = .ok (.aload_n 0, 1) := do_42 (rdb (p := 1216) (i := 8) ch_code_1216 rfl)
theorem dL_law_1225 : decode code 1225 = .ok (.iload_n 3, 1) := do_29 (rdb (p := 1216) (i := 9) ch_code_1216 rfl)
theorem dL_law_1226 : decode code 1226 = .ok (.iconst 3, 1) := do_6 (rdb (p := 1216) (i := 10) ch_code_1216 rfl)
theorem dL_law_1227 : decode code 1227 = .ok (.iadd, 1) := do_96 (rdb (p := 1216) (i := 11) ch_code_1216 rfl)
theorem dL_law_1228 : decode code 1228 = .ok (.iaload, 1) := do_46 (rdb (p := 1216) (i := 12) ch_code_1216 rfl)
theorem dL_law_1229 : decode code 1229 = .ok (.invokevirtual 125, 3) := do_182 (rdb (p := 1216) (i := 13) ch_code_1216 rfl) (rdb (p := 1216) (i := 14) ch_code_1216 rfl) (rdb (p := 1216) (i := 15) ch_code_1216 rfl) rfl
theorem dL_law_1232 : decode code 1232 = .ok (.pop, 1) := do_87 (rdb (p := 1216) (i := 16) ch_code_1216 rfl)
theorem dL_law_1233 : decode code 1233 = .ok (.goto 498, 3) := do_167 (rdb (p := 1216) (i := 17) ch_code_1216 rfl) (rdb (p := 1216) (i := 18) ch_code_1216 rfl) (rdb (p := 1216) (i := 19) ch_code_1216 rfl) (by decide +kernel)
theorem dL_law_1236 : decode code 1236 = .ok (.aload_n 1, 1) := do_43 (rdb (p := 1216) (i := 20) ch_code_1216 rfl)
theorem dL_law_1237 : decode code 1237 = .ok (.aload_n 0, 1) := do_42 (rdb (p := 1216) (i := 21) ch_code_1216 rfl)
theorem dL_law_1238 : decode code 1238 = .ok (.iload_n 3, 1) := do_29 (rdb (p := 1216) (i := 22) ch_code_1216 rfl)
theorem dL_law_1239 : decode code 1239 = .ok (.iconst 1, 1) := do_4 (rdb (p := 1216) (i := 23) ch_code_1216 rfl)
theorem dL_law_1240 : decode code 1240 = .ok (.iadd, 1) := do_96 (rdb (p := 1216) (i := 24) ch_code_1216 rfl)
theorem dL_law_1241 : decode code 1241 = .ok (.iaload, 1) := do_46 (rdb (p := 1216) (i := 25) ch_code_1216 rfl)
theorem dL_law_1242 : decode code 1242 = .ok (.invokevirtual 126, 3) := do_182 (rdb (p := 1216) (i := 26) ch_code_1216 rfl) (rdb (p := 1216) (i := 27) ch_code_1216 rfl) (rdb (p := 1216) (i := 28) ch_code_1216 rfl) rfl
theorem dL_law_1245 : decode code 1245 = .ok (.pop, 1) := do_87 (rdb (p := 1216) (i := 29) ch_code_1216 rfl)
theorem dL_law_1246 : decode code 1246 = .ok (.aload_n 2, 1) := do_44 (rdb (p := 1216) (i := 30) ch_code_1216 rfl)
theorem dL_law_1247 : decode code 1247 = .ok (.aload_n 0, 1) := do_42 (rdb (p := 1216) (i := 31) ch_code_1216 rfl)
theorem ch_code_1248 : (code.data.toList.drop 1248).take 36 = [29, 4, 96, 46, 182, 0, 129, 87, 167, 1, 219, 43, 42, 29, 4, 96, 46, 42, 29, 5, 96, 46, 42, 29, 6, 96, 46, 182, 0, 130, 87, 44, 42, 29, 4, 96] := by decide +kernel
theorem dL_law_1248 : decode code 1248 = .ok (.iload_n 3, 1) := do_29 (rdb (p := 1248) (i := 0) ch_code_1248 rfl)
theorem dL_law_1249 : decode code 1249 = .ok (.iconst 1, 1) := do_4 (rdb (p := 1248) (i := 1) ch_code_1248 rfl)
theorem dL_law_1250 : decode code 1250 = .ok (.iadd, 1) := do_96 (rdb (p := 1248) (i := 2) ch_code_1248 rfl)
theorem dL_law_1251 : decode code 1251 = .ok (.iaload, 1) := do_46 (rdb (p := 1248) (i := 3) ch_code_1248 rfl)
theorem dL_law_1252 : decode code 1252 = .ok (.invokevirtual 129, 3) := do_182 (rdb (p := 1248) (i := 4) ch_code_1248 rfl) (rdb (p := 1248) (i := 5) ch_code_1248 rfl) (rdb (p := 1248) (i := 6) ch_code_1248 rfl) rfl
theorem dL_law_1255 : decode code 1255 = .ok (.pop, 1) := do_87 (rdb (p := 1248) (i := 7) ch_code_1248 rfl)
theorem dL_law_1256 : decode code 1256 = .ok (.goto 475, 3) := do_167 (rdb (p := 1248) (i := 8) ch_code_1248 rfl) (rdb (p := 1248) (i := 9) ch_code_1248 rfl) (rdb (p := 1248) (i := 10) ch_code_1248 rfl) (by decide +kernel)
theorem dL_law_1259 : decode code 1259 = .ok (.aload_n 1, 1) := do_43 (rdb (p := 1248) (i := 11) ch_code_1248 rfl)
theorem dL_law_1260 : decode code 1260 = .ok (.aload_n 0, 1) := do_42 (rdb (p := 1248) (i := 12) ch_code_1248 rfl)
theorem dL_law_1261 : decode code 1261 = .ok (.iload_n 3, 1) := do_29 (rdb (p := 1248) (i := 13) ch_code_1248 rfl)
theorem dL_law_1262 : decode code 1262 = .ok (.iconst 1, 1) := do_4 (rdb (p := 1248) (i := 14) ch_code_1248 rfl)
theorem dL_law_1263 : decode code 1263 = .ok (.iadd, 1) := do_96 (rdb (p := 1248) (i := 15) ch_code_1248 rfl)
theorem dL_law_1264 : decode code 1264 = .ok (.iaload, 1) := do_46 (rdb (p := 1248) (i := 16) ch_code_1248 rfl)
theorem dL_law_1265 : decode code 1265 = .ok (.aload_n 0, 1) := do_42 (rdb (p := 1248) (i := 17) ch_code_1248 rfl)
theorem dL_law_1266 : decode code 1266 = .ok (.iload_n 3, 1) := do_29 (rdb (p := 1248) (i := 18) ch_code_1248 rfl)
theorem dL_law_1267 : decode code 1267 = .ok (.iconst 2, 1) := do_5 (rdb (p := 1248) (i := 19) ch_code_1248 rfl)
theorem dL_law_1268 : decode code 1268 = .ok (.iadd, 1) := do_96 (rdb (p := 1248) (i := 20) ch_code_1248 rfl)
theorem dL_law_1269 : decode code 1269 = .ok (.iaload, 1) := do_46 (rdb (p := 1248) (i := 21) ch_code_1248 rfl)
theorem dL_law_1270 : decode code 1270 = .ok (.aload_n 0, 1) := do_42 (rdb (p := 1248) (i := 22) ch_code_1248 rfl)
theorem dL_law_1271 : decode code 1271 = .ok (.iload_n 3, 1) := do_29 (rdb (p := 1248) (i := 23) ch_code_1248 rfl)
theorem dL_law_1272 : decode code 1272 = .ok (.iconst 3, 1) := do_6 (rdb (p := 1248) (i := 24) ch_code_1248 rfl)
theorem dL_law_1273 : decode code 1273 = .ok (.iadd, 1) := do_96 (rdb (p := 1248) (i := 25) ch_code_1248 rfl)
theorem dL_law_1274 : decode code 1274 = .ok (.iaload, 1) := do_46 (rdb (p := 1248) (i := 26) ch_code_1248 rfl)
theorem dL_law_1275 : decode code 1275 = .ok (.invokevirtual 130, 3) := do_182 (rdb (p := 1248) (i := 27) ch_code_1248 rfl) (rdb (p := 1248) (i := 28) ch_code_1248 rfl) (rdb (p := 1248) (i := 29) ch_code_1248 rfl) rfl
theorem dL_law_1278 : decode code 1278 = .ok (.pop, 1) := do_87 (rdb (p := 1248) (i := 30) ch_code_1248 rfl)
theorem dL_law_1279 : decode code 1279 = .ok (.aload_n 2, 1) := do_44 (rdb (p := 1248) (i := 31) ch_code_1248 rfl)
theorem ch_code_1280 : (code.data.toList.drop 1280).take 36 = [42, 29, 4, 96, 46, 42, 29, 5, 96, 46, 42, 29, 6, 96, 46, 182, 0, 133, 87, 167, 1, 176, 43, 42, 29, 4, 96, 46, 42, 29, 5, 96, 46, 42, 29, 6] := by decide +kernel
theorem dL_law_1280 : decode code 1280 = .ok (.aload_n 0, 1) := do_42 (rdb (p := 1280) (i := 0) ch_code_1280 rfl)
theorem dL_law_1281 : decode code 1281 = .ok (.iload_n 3, 1) := do_29 (rdb (p := 1280) (i := 1) ch_code_1280 rfl)
theorem dL_law_1282 : decode code 1282 = .ok (.iconst 1, 1) := do_4 (rdb (p := 1280) (i := 2) ch_code_1280 rfl)
theorem dL_law_1283 : decode code 1283 = .ok (.iadd, 1) := do_96 (rdb (p := 1280) (i := 3) ch_code_1280 rfl)
theorem dL_law_1284 : decode code 1284 = .ok (.iaload, 1) := do_46 (rdb (p := 1280) (i := 4) ch_code_1280 rfl)
theorem dL_law_1285 : decode code 1285 = .ok (.aload_n 0, 1) := do_42 (rdb (p := 1280) (i := 5) ch_code_1280 rfl)
theorem dL_law_1286 : decode code 1286 = .ok (.iload_n 3, 1) := do_29 (rdb (p := 1280) (i := 6) ch_code_1280 rfl)
theorem dL_law_1287 : decode code 1287 = .ok (.iconst 2, 1) := do_5 (rdb (p := 1280) (i := 7) ch_code_1280 rfl)
theorem dL_law_1288 : decode code 1288 = .ok (.iadd, 1) := do_96 (rdb (p := 1280) (i := 8) ch_code_1280 rfl)
theorem dL_law_1289 : decode code 1289 = .ok (.iaload, 1) := do_46 (rdb (p := 1280) (i := 9) ch_code_1280 rfl)
theorem dL_law_1290 : decode code 1290 = .ok (.aload_n 0, 1) := do_42 (rdb (p := 1280) (i := 10) ch_code_1280 rfl)
theorem dL_law_1291 : decode code 1291 = .ok (.iload_n 3, 1) := do_29 (rdb (p := 1280) (i := 11) ch_code_1280 rfl)
theorem dL_law_1292 : decode code 1292 = .ok (.iconst 3, 1) := do_6 (rdb (p := 1280) (i := 12) ch_code_1280 rfl)
theorem dL_law_1293 : decode code 1293 = .ok (.iadd, 1) := do_96 (rdb (p := 1280) (i := 13) ch_code_1280 rfl)
theorem dL_law_1294 : decode code 1294 = .ok (.iaload, 1) := do_46 (rdb (p := 1280) (i := 14) ch_code_1280 rfl)
theorem dL_law_1295 : decode code 1295 = .ok (.invokevirtual 133, 3) := do_182 (rdb (p := 1280) (i := 15) ch_code_1280 rfl) (rdb (p := 1280) (i := 16) ch_code_1280 rfl) (rdb (p := 1280) (i := 17) ch_code_1280 rfl) rfl
theorem dL_law_1298 : decode code 1298 = .ok (.pop, 1) := do_87 (rdb (p := 1280) (i := 18) ch_code_1280 rfl)
theorem dL_law_1299 : decode code 1299 = .ok (.goto 432, 3) := do_167 (rdb (p := 1280) (i := 19) ch_code_1280 rfl) (rdb (p := 1280) (i := 20) ch_code_1280 rfl) (rdb (p := 1280) (i := 21) ch_code_1280 rfl) (by decide +kernel)
theorem dL_law_1302 : decode code 1302 = .ok (.aload_n 1, 1) := do_43 (rdb (p := 1280) (i := 22) ch_code_1280 rfl)
theorem dL_law_1303 : decode code 1303 = .ok (.aload_n 0, 1) := do_42 (rdb (p := 1280) (i := 23) ch_code_1280 rfl)
theorem dL_law_1304 : decode code 1304 = .ok (.iload_n 3, 1) := do_29 (rdb (p := 1280) (i := 24) ch_code_1280 rfl)
theorem dL_law_1305 : decode code 1305 = .ok (.iconst 1, 1) := do_4 (rdb (p := 1280) (i := 25) ch_code_1280 rfl)
theorem dL_law_1306 : decode code 1306 = .ok (.iadd, 1) := do_96 (rdb (p := 1280) (i := 26) ch_code_1280 rfl)
theorem dL_law_1307 : decode code 1307 = .ok (.iaload, 1) := do_46 (rdb (p := 1280) (i := 27) ch_code_1280 rfl)
theorem dL_law_1308 : decode code 1308 = .ok (.aload_n 0, 1) := do_42 (rdb (p := 1280) (i := 28) ch_code_1280 rfl)
theorem dL_law_1309 : decode code 1309 = .ok (.iload_n 3, 1) := do_29 (rdb (p := 1280) (i := 29) ch_code_1280 rfl)
theorem dL_law_1310 : decode code 1310 = .ok (.iconst 2, 1) := do_5 (rdb (p := 1280) (i := 30) ch_code_1280 rfl)
theorem dL_law_1311 : decode code 1311 = .ok (.iadd, 1) := do_96 (rdb (p := 1280) (i := 31) ch_code_1280 rfl)
theorem ch_code_1312 : (code.data.toList.drop 1312).take 36 = [46, 42, 29, 6, 96, 46, 182, 0, 134, 87, 44, 42, 29, 4, 96, 46, 42, 29, 5, 96, 46, 42, 29, 6, 96, 46, 182, 0, 137, 87, 167, 1, 133, 43, 42, 29] := by decide +kernel
theorem dL_law_1312 : decode code 1312 = .ok (.iaload, 1) := do_46 (rdb (p := 1312) (i := 0) ch_code_1312 rfl)
theorem dL_law_1313 : decode code 1313 = .ok (.aload_n 0, 1) := do_42 (rdb (p := 1312) (i := 1) ch_code_1312 rfl)
theorem dL_law_1314 : decode code 1314 = .ok (.iload_n 3, 1) := do_29 (rdb (p := 1312) (i := 2) ch_code_1312 rfl)
theorem dL_law_1315 : decode code 1315 = .ok (.iconst 3, 1) := do_6 (rdb (p := 1312) (i := 3) ch_code_1312 rfl)
theorem dL_law_1316 : decode code 1316 = .ok (.iadd, 1) := do_96 (rdb (p := 1312) (i := 4) ch_code_1312 rfl)
theorem dL_law_1317 : decode code 1317 = .ok (.iaload, 1) := do_46 (rdb (p := 1312) (i := 5) ch_code_1312 rfl)
theorem dL_law_1318 : decode code 1318 = .ok (.invokevirtual 134, 3) := do_182 (rdb (p := 1312) (i := 6) ch_code_1312 rfl) (rdb (p := 1312) (i := 7) ch_code_1312 rfl) (rdb (p := 1312) (i := 8) ch_code_1312 rfl) rfl
theorem dL_law_1321 : decode code 1321 = .ok (.pop, 1) := do_87 (rdb (p := 1312) (i := 9) ch_code_1312 rfl)
theorem dL_law_1322 : decode code 1322 = .ok (.aload_n 2, 1) := do_44 (rdb (p := 1312) (i := 10) ch_code_1312 rfl)
theorem dL_law_1323 : decode code 1323 = .ok (.aload_n 0, 1) := do_42 (rdb (p := 1312) (i := 11) ch_code_1312 rfl)
theorem dL_law_1324 : decode code 1324 = .ok (.iload_n 3, 1) := do_29 (rdb (p := 1312) (i := 12) ch_code_1312 rfl)
theorem dL_law_1325 : decode code 1325 = .ok (.iconst 1, 1) := do_4 (rdb (p := 1312) (i := 13) ch_code_1312 rfl)
theorem dL_law_1326 : decode code 1326 = .ok (.iadd, 1) := do_96 (rdb (p := 1312) (i := 14) ch_code_1312 rfl)
theorem dL_law_1327 : decode code 1327 = .ok (.iaload, 1) := do_46 (rdb (p := 1312) (i := 15) ch_code_1312 rfl)
theorem dL_law_1328 : decode code 1328 = .ok (.aload_n 0, 1) := do_42 (rdb (p := 1312) (i := 16) ch_code_1312 rfl)
theorem dL_law_1329 : decode code 1329 = .ok (.iload_n 3, 1) := do_29 (rdb (p := 1312) (i := 17) ch_code_1312 rfl)
theorem dL_law_1330 : decode code 1330 = .ok (.iconst 2, 1) := do_5 (rdb (p := 1312) (i := 18) ch_code_1312 rfl)
theorem dL_law_1331 : decode code 1331 = .ok (.iadd, 1) := do_96 (rdb (p := 1312) (i := 19) ch_code_1312 rfl)
theorem dL_law_1332 : decode code 1332 = .ok (.iaload, 1) := do_46 (rdb (p := 1312) (i := 20) ch_code_1312 rfl)
theorem dL_law_1333 : decode code 1333 = .ok (.aload_n 0, 1) := do_42 (rdb (p := 1312) (i := 21) ch_code_1312 rfl)
theorem dL_law_1334 : decode code 1334 = .ok (.iload_n 3, 1) := do_29 (rdb (p := 1312) (i := 22) ch_code_1312 rfl)
theorem dL_law_1335 : decode code 1335 = .ok (.iconst 3, 1) := do_6 (rdb (p := 1312) (i := 23) ch_code_1312 rfl)
theorem dL_law_1336 : decode code 1336 = .ok (.iadd, 1) := do_96 (rdb (p := 1312) (i := 24) ch_code_1312 rfl)
theorem dL_law_1337 : decode code 1337 = .ok (.iaload, 1) := do_46 (rdb (p := 1312) (i := 25) ch_code_1312 rfl)
theorem dL_law_1338 : decode code 1338 = .ok (.invokevirtual 137, 3) := do_182 (rdb (p := 1312) (i := 26) ch_code_1312 rfl) (rdb (p := 1312) (i := 27) ch_code_1312 rfl) (rdb (p := 1312) (i := 28) ch_code_1312 rfl) rfl
theorem dL_law_1341 : decode code 1341 = .ok (.pop, 1) := do_87 (rdb (p := 1312) (i := 29) ch_code_1312 rfl)
theorem dL_law_1342 : decode code 1342 = .ok (.goto 389, 3) := do_167 (rdb (p := 1312) (i := 30) ch_code_1312 rfl) (rdb (p := 1312) (i := 31) ch_code_1312 rfl) (rdb (p := 1312) (i := 32) ch_code_1312 rfl) (by decide +kernel)
theorem ch_code_1344 : (code.data.toList.drop 1344).take 36 = [133, 43, 42, 29, 4, 96, 46, 42, 29, 5, 96, 46, 42, 29, 6, 96, 46, 42, 29, 7, 96, 46, 182, 0, 138, 87, 44, 42, 29, 4, 96, 46, 42, 29, 5, 96] := by decide +kernel
theorem dL_law_1345 : decode code 1345 = .ok (.aload_n 1, 1) := do_43 (rdb (p := 1344) (i := 1) ch_code_1344 rfl)
theorem dL_law_1346 : decode code 1346 = .ok (.aload_n 0, 1) := do_42 (rdb (p := 1344) (i := 2) ch_code_1344 rfl)
theorem dL_law_1347 : decode code 1347 = .ok (.iload_n 3, 1) := do_29 (rdb (p := 1344) (i := 3) ch_code_1344 rfl)
theorem dL_law_1348 : decode code 1348 = .ok (.iconst 1, 1) := do_4 (rdb (p := 1344) (i := 4) ch_code_1344 rfl)
theorem dL_law_1349 : decode code 1349 = .ok (.iadd, 1) := do_96 (rdb (p := 1344) (i := 5) ch_code_1344 rfl)
theorem dL_law_1350 : decode code 1350 = .ok (.iaload, 1) := do_46 (rdb (p := 1344) (i := 6) ch_code_1344 rfl)
theorem dL_law_1351 : decode code 1351 = .ok (.aload_n 0, 1) := do_42 (rdb (p := 1344) (i := 7) ch_code_1344 rfl)
theorem dL_law_1352 : decode code 1352 = .ok (.iload_n 3, 1) := do_29 (rdb (p := 1344) (i := 8) ch_code_1344 rfl)
theorem dL_law_1353 : decode code 1353 = .ok (.iconst 2, 1) := do_5 (rdb (p := 1344) (i := 9) ch_code_1344 rfl)
theorem dL_law_1354 : decode code 1354 = .ok (.iadd, 1) := do_96 (rdb (p := 1344) (i := 10) ch_code_1344 rfl)
theorem dL_law_1355 : decode code 1355 = .ok (.iaload, 1) := do_46 (rdb (p := 1344) (i := 11) ch_code_1344 rfl)
theorem dL_law_1356 : decode code 1356 = .ok (.aload_n 0, 1) := do_42 (rdb (p := 1344) (i := 12) ch_code_1344 rfl)
theorem dL_law_1357 : decode code 1357 = .ok (.iload_n 3, 1) := do_29 (rdb (p := 1344) (i := 13) ch_code_1344 rfl)
theorem dL_law_1358 : decode code 1358 = .ok (.iconst 3, 1) := do_6 (rdb (p := 1344) (i := 14) ch_code_1344 rfl)
theorem dL_law_1359 : decode code 1359 = .ok (.iadd, 1) := do_96 (rdb (p := 1344) (i := 15) ch_code_1344 rfl)
theorem dL_law_1360 : decode code 1360 = .ok (.iaload, 1) := do_46 (rdb (p := 1344) (i := 16) ch_code_1344 rfl)
theorem dL_law_1361 : decode code 1361 = .ok (.aload_n 0, 1) := do_42 (rdb (p := 1344) (i := 17) ch_code_1344 rfl)
theorem dL_law_1362 : decode code 1362 = .ok (.iload_n 3, 1) := do_29 (rdb (p := 1344) (i := 18) ch_code_1344 rfl)
theorem dL_law_1363 : decode code 1363 = .ok (.iconst 4, 1) := do_7 (rdb (p := 1344) (i := 19) ch_code_1344 rfl)
theorem dL_law_1364 : decode code 1364 = .ok (.iadd, 1) := do_96 (rdb (p := 1344) (i := 20) ch_code_1344 rfl)
theorem dL_law_1365 : decode code 1365 = .ok (.iaload, 1) := do_46 (rdb (p := 1344) (i := 21) ch_code_1344 rfl)
theorem dL_law_1366 : decode code 1366 = .ok (.invokevirtual 138, 3) := do_182 (rdb (p := 1344) (i := 22) ch_code_1344 rfl) (rdb (p := 1344) (i := 23) ch_code_1344 rfl) (rdb (p := 1344) (i := 24) ch_code_1344 rfl) rfl
theorem dL_law_1369 : decode code 1369 = .ok (.pop, 1) := do_87 (rdb (p := 1344) (i := 25) ch_code_1344 rfl)
theorem dL_law_1370 : decode code 1370 = .ok (.aload_n 2, 1) := do_44 (rdb (p := 1344) (i := 26) ch_code_1344 rfl)
theorem dL_law_1371 : decode code 1371 = .ok (.aload_n 0, 1) := do_42 (rdb (p := 1344) (i := 27) ch_code_1344 rfl)
theorem dL_law_1372 : decode code 1372 = .ok (.iload_n 3, 1) := do_29 (rdb (p := 1344) (i := 28) ch_code_1344 rfl)
theorem dL_law_1373 : decode code 1373 = .ok (.iconst 1, 1) := do_4 (rdb (p := 1344) (i := 29) ch_code_1344 rfl)
theorem dL_law_1374 : decode code 1374 = .ok (.iadd, 1) := do_96 (rdb (p := 1344) (i := 30) ch_code_1344 rfl)
theorem dL_law_1375 : decode code 1375 = .ok (.iaload, 1) := do_46 (rdb (p := 1344) (i := 31) ch_code_1344 rfl)
theorem ch_code_1376 : (code.data.toList.drop 1376).take 36 = [42, 29, 5, 96, 46, 42, 29, 6, 96, 46, 42, 29, 7, 96, 46, 182, 0, 141, 87, 167, 1, 80, 43, 42, 29, 4, 96, 46, 42, 29, 5, 96, 46, 42, 29, 6] := by decide +kernel
theorem dL_law_1376 : decode code 1376 = .ok (.aload_n 0, 1) := do_42 (rdb (p := 1376) (i := 0) ch_code_1376 rfl)
theorem dL_law_1377 : decode code 1377 = .ok (.iload_n 3, 1) := do_29 (rdb (p := 1376) (i := 1) ch_code_1376 rfl)
theorem dL_law_1378 : decode code 1378 = .ok (.iconst 2, 1) := do_5 (rdb (p := 1376) (i := 2) ch_code_1376 rfl)
theorem dL_law_1379 : decode code 1379 = .ok (.iadd, 1) := do_96 (rdb (p := 1376) (i := 3) ch_code_1376 rfl)
theorem dL_law_1380 : decode code 1380 = .ok (.iaload, 1) := do_46 (rdb (p := 1376) (i := 4) ch_code_1376 rfl)
theorem dL_law_1381 : decode code 1381 = .ok (.aload_n 0, 1) := do_42 (rdb (p := 1376) (i := 5) ch_code_1376 rfl)
theorem dL_law_1382 : decode code 1382 = .ok (.iload_n 3, 1) := do_29 (rdb (p := 1376) (i := 6) ch_code_1376 rfl)
theorem dL_law_1383 : decode code 1383 = .ok (.iconst 3, 1) := do_6 (rdb (p := 1376) (i := 7) ch_code_1376 rfl)
theorem dL_law_1384 : decode code 1384 = .ok (.iadd, 1) := do_96 (rdb (p := 1376) (i := 8) ch_code_1376 rfl)
theorem dL_law_1385 : decode code 1385 = .ok (.iaload, 1) := do_46 (rdb (p := 1376) (i := 9) ch_code_1376 rfl)
theorem dL_law_1386 : decode code 1386 = .ok (.aload_n 0, 1) := do_42 (rdb (p := 1376) (i := 10) ch_code_1376 rfl)
theorem dL_law_1387 : decode code 1387 = .ok (.iload_n 3, 1) := do_29 (rdb (p := 1376) (i := 11) ch_code_1376 rfl)
theorem dL_law_1388 : decode code 1388 = .ok (.iconst 4, 1) := do_7 (rdb (p := 1376) (i := 12) ch_code_1376 rfl)
theorem dL_law_1389 : decode code 1389 = .ok (.iadd, 1) := do_96 (rdb (p := 1376) (i := 13) ch_code_1376 rfl)
theorem dL_law_1390 : decode code 1390 = .ok (.iaload, 1) := do_46 (rdb (p := 1376) (i := 14) ch_code_1376 rfl)
theorem dL_law_1391 : decode code 1391 = .ok (.invokevirtual 141, 3) := do_182 (rdb (p := 1376) (i := 15) ch_code_1376 rfl) (rdb (p := 1376) (i := 16) ch_code_1376 rfl) (rdb (p := 1376) (i := 17) ch_code_1376 rfl) rfl
theorem dL_law_1394 : decode code 1394 = .ok (.pop, 1) := do_87 (rdb (p := 1376) (i := 18) ch_code_1376 rfl)
theorem dL_law_1395 : decode code 1395 = .ok (.goto 336, 3) := do_167 (rdb (p := 1376) (i := 19) ch_code_1376 rfl) (rdb (p := 1376) (i := 20) ch_code_1376 rfl) (rdb (p := 1376) (i := 21) ch_code_1376 rfl) (by decide +kernel)
theorem dL_law_1398 : decode code 1398 = .ok (.aload_n 1, 1) := do_43 (rdb (p := 1376) (i := 22) ch_code_1376 rfl)
theorem dL_law_1399 : decode code 1399 = .ok (.aload_n 0, 1) := do_42 (rdb (p := 1376) (i := 23) ch_code_1376 rfl)
theorem dL_law_1400 : decode code 1400 = .ok (.iload_n 3, 1) := do_29 (rdb (p := 1376) (i := 24) ch_code_1376 rfl)
theorem dL_law_1401 : decode code 1401 = .ok (.iconst 1, 1) := do_4 (rdb (p := 1376) (i := 25) ch_code_1376 rfl)
theorem dL_law_1402 : decode code 1402 = .ok (.iadd, 1) := do_96 (rdb (p := 1376) (i := 26) ch_code_1376 rfl)
theorem dL_law_1403 : decode code 1403 = .ok (.iaload, 1) := do_46 (rdb (p := 1376) (i := 27) ch_code_1376 rfl)
theorem dL_law_1404 : decode code 1404 = .ok (.aload_n 0, 1) := do_42 (rdb (p := 1376) (i := 28) ch_code_1376 rfl)
theorem dL_law_1405 : decode code 1405 = .ok (.iload_n 3, 1) := do_29 (rdb (p := 1376) (i := 29) ch_code_1376 rfl)
theorem dL_law_1406 : decode code 1406 = .ok (.iconst 2, 1) := do_5 (rdb (p := 1376) (i := 30) ch_code_1376 rfl)
theorem dL_law_1407 : decode code 1407 = .ok (.iadd, 1) := do_96 (rdb (p := 1376) (i := 31) ch_code_1376 rfl)
theorem ch_code_1408 : (code.data.toList.drop 1408).take 36 = [46, 42, 29, 6, 96, 46, 182, 0, 142, 87, 44, 42, 29, 4, 96, 46, 42, 29, 5, 96, 46, 42, 29, 6, 96, 46, 182, 0, 145, 87, 167, 1, 37, 43, 42, 29] := by decide +kernel
theorem dL_law_1408 : decode code 1408 = .ok (.iaload, 1) := do_46 (rdb (p := 1408) (i := 0) ch_code_1408 rfl)
theorem dL_law_1409 : decode code 1409 = .ok (.aload_n 0, 1) := do_42 (rdb (p := 1408) (i := 1) ch_code_1408 rfl)
theorem dL_law_1410 : decode code 1410 = .ok (.iload_n 3, 1) := do_29 (rdb (p := 1408) (i := 2) ch_code_1408 rfl)
theorem dL_law_1411 : decode code 1411 = .ok (.iconst 3, 1) := do_6 (rdb (p := 1408) (i := 3) ch_code_1408 rfl)
theorem dL_law_1412 : decode code 1412 = .ok (.iadd, 1) := do_96 (rdb (p := 1408) (i := 4) ch_code_1408 rfl)
theorem dL_law_1413 : decode code 1413 = .ok (.iaload, 1) := do_46 (rdb (p := 1408) (i := 5) ch_code_1408 rfl)
theorem dL_law_1414 : decode code 1414 = .ok (.invokevirtual 142, 3) := do_182 (rdb (p := 1408) (i := 6) ch_code_1408 rfl) (rdb (p := 1408) (i := 7) ch_code_1408 rfl) (rdb (p := 1408) (i := 8) ch_code_1408 rfl) rfl
theorem dL_law_1417 : decode code 1417 = .ok (.pop, 1) := do_87 (rdb (p := 1408) (i := 9) ch_code_1408 rfl)
theorem dL_law_1418 : decode code 1418 = .ok (.aload_n 2, 1) := do_44 (rdb (p := 1408) (i := 10) ch_code_1408 rfl)
theorem dL_law_1419 : decode code 1419 = .ok (.aload_n 0, 1) := do_42 (rdb (p := 1408) (i := 11) ch_code_1408 rfl)
theorem dL_law_1420 : decode code 1420 = .ok (.iload_n 3, 1) := do_29 (rdb (p := 1408) (i := 12) ch_code_1408 rfl)
theorem dL_law_1421 : decode code 1421 = .ok (.iconst 1, 1) := do_4 (rdb (p := 1408) (i := 13) ch_code_1408 rfl)
theorem dL_law_1422 : decode code 1422 = .ok (.iadd, 1) := do_96 (rdb (p := 1408) (i := 14) ch_code_1408 rfl)
theorem dL_law_1423 : decode code 1423 = .ok (.iaload, 1) := do_46 (rdb (p := 1408) (i := 15) ch_code_1408 rfl)
theorem dL_law_1424 : decode code 1424 = .ok (.aload_n 0, 1) := do_42 (rdb (p := 1408) (i := 16) ch_code_1408 rfl)
theorem dL_law_1425 : decode code 1425 = .ok (.iload_n 3, 1) := do_29 (rdb (p := 1408) (i := 17) ch_code_1408 rfl)
theorem dL_law_1426 : decode code 1426 = .ok (.iconst 2, 1) := do_5 (rdb (p := 1408) (i := 18) ch_code_1408 rfl)
theorem dL_law_1427 : decode code 1427 = .ok (.iadd, 1) := do_96 (rdb (p := 1408) (i := 19) ch_code_1408 rfl)
theorem dL_law_1428 : decode code 1428 = .ok (.iaload, 1) := do_46 (rdb (p := 1408) (i := 20) ch_code_1408 rfl)
theorem dL_law_1429 : decode code 1429 = .ok (.aload_n 0, 1) := do_42 (rdb (p := 1408) (i := 21) ch_code_1408 rfl)
theorem dL_law_1430 : decode code 1430 = .ok (.iload_n 3, 1) := do_29 (rdb (p := 1408) (i := 22) ch_code_1408 rfl)
theorem dL_law_1431 : decode code 1431 = .ok (.iconst 3, 1) := do_6 (rdb (p := 1408) (i := 23) ch_code_1408 rfl)
theorem dL_law_1432 : decode code 1432 = .ok (.iadd, 1) := do_96 (rdb (p := 1408) (i := 24) ch_code_1408 rfl)
theorem dL_law_1433 : decode code 1433 = .ok (.iaload, 1) := do_46 (rdb (p := 1408) (i := 25) ch_code_1408 rfl)
theorem dL_law_1434 : decode code 1434 = .ok (.invokevirtual 145, 3) := do_182 (rdb (p := 1408) (i := 26) ch_code_1408 rfl) (rdb (p := 1408) (i := 27) ch_code_1408 rfl) (rdb (p := 1408) (i := 28) ch_code_1408 rfl) rfl
theorem dL_law_1437 : decode code 1437 = .ok (.pop, 1) := do_87 (rdb (p := 1408) (i := 29) ch_code_1408 rfl)
theorem dL_law_1438 : decode code 1438 = .ok (.goto 293, 3) := do_167 (rdb (p := 1408) (i := 30) ch_code_1408 rfl) (rdb (p := 1408) (i := 31) ch_code_1408 rfl) (rdb (p := 1408) (i := 32) ch_code_1408 rfl) (by decide +kernel)
theorem ch_code_1440 : (code.data.toList.drop 1440).take 36 = [37, 43, 42, 29, 4, 96, 46, 182, 0, 146, 87, 44, 42, 29, 4, 96, 46, 182, 0, 149, 87, 167, 1, 14, 43, 42, 29, 4, 96, 46, 42, 29, 5, 96, 46, 42] := by decide +kernel
theorem dL_law_1441 : decode code 1441 = .ok (.aload_n 1, 1) := do_43 (rdb (p := 1440) (i := 1) ch_code_1440 rfl)
theorem dL_law_1442 : decode code 1442 = .ok (.aload_n 0, 1) := do_42 (rdb (p := 1440) (i := 2) ch_code_1440 rfl)
theorem dL_law_1443 : decode code 1443 = .ok (.iload_n 3, 1) := do_29 (rdb (p := 1440) (i := 3) ch_code_1440 rfl)
theorem dL_law_1444 : decode code 1444 = .ok (.iconst 1, 1) := do_4 (rdb (p := 1440) (i := 4) ch_code_1440 rfl)
theorem dL_law_1445 : decode code 1445 = .ok (.iadd, 1) := do_96 (rdb (p := 1440) (i := 5) ch_code_1440 rfl)
theorem dL_law_1446 : decode code 1446 = .ok (.iaload, 1) := do_46 (rdb (p := 1440) (i := 6) ch_code_1440 rfl)
theorem dL_law_1447 : decode code 1447 = .ok (.invokevirtual 146, 3) := do_182 (rdb (p := 1440) (i := 7) ch_code_1440 rfl) (rdb (p := 1440) (i := 8) ch_code_1440 rfl) (rdb (p := 1440) (i := 9) ch_code_1440 rfl) rfl
theorem dL_law_1450 : decode code 1450 = .ok (.pop, 1) := do_87 (rdb (p := 1440) (i := 10) ch_code_1440 rfl)
theorem dL_law_1451 : decode code 1451 = .ok (.aload_n 2, 1) := do_44 (rdb (p := 1440) (i := 11) ch_code_1440 rfl)
theorem dL_law_1452 : decode code 1452 = .ok (.aload_n 0, 1) := do_42 (rdb (p := 1440) (i := 12) ch_code_1440 rfl)
theorem dL_law_1453 : decode code 1453 = .ok (.iload_n 3, 1) := do_29 (rdb (p := 1440) (i := 13) ch_code_1440 rfl)
theorem dL_law_1454 : decode code 1454 = .ok (.iconst 1, 1) := do_4 (rdb (p := 1440) (i := 14) ch_code_1440 rfl)
theorem dL_law_1455 : decode code 1455 = .ok (.iadd, 1) := do_96 (rdb (p := 1440) (i := 15) ch_code_1440 rfl)
theorem dL_law_1456 : decode code 1456 = .ok (.iaload, 1) := do_46 (rdb (p := 1440) (i := 16) ch_code_1440 rfl)
theorem dL_law_1457 : decode code 1457 = .ok (.invokevirtual 149, 3) := do_182 (rdb (p := 1440) (i := 17) ch_code_1440 rfl) (rdb (p := 1440) (i := 18) ch_code_1440 rfl) (rdb (p := 1440) (i := 19) ch_code_1440 rfl) rfl
theorem dL_law_1460 : decode code 1460 = .ok (.pop, 1) := do_87 (rdb (p := 1440) (i := 20) ch_code_1440 rfl)
theorem dL_law_1461 : decode code 1461 = .ok (.goto 270, 3) := do_167 (rdb (p := 1440) (i := 21) ch_code_1440 rfl) (rdb (p := 1440) (i := 22) ch_code_1440 rfl) (rdb (p := 1440) (i := 23) ch_code_1440 rfl) (by decide +kernel)
theorem dL_law_1464 : decode code 1464 = .ok (.aload_n 1, 1) := do_43 (rdb (p := 1440) (i := 24) ch_code_1440 rfl)
theorem dL_law_1465 : decode code 1465 = .ok (.aload_n 0, 1) := do_42 (rdb (p := 1440) (i := 25) ch_code_1440 rfl)
theorem dL_law_1466 : decode code 1466 = .ok (.iload_n 3, 1) := do_29 (rdb (p := 1440) (i := 26) ch_code_1440 rfl)
theorem dL_law_1467 : decode code 1467 = .ok (.iconst 1, 1) := do_4 (rdb (p := 1440) (i := 27) ch_code_1440 rfl)
theorem dL_law_1468 : decode code 1468 = .ok (.iadd, 1) := do_96 (rdb (p := 1440) (i := 28) ch_code_1440 rfl)
theorem dL_law_1469 : decode code 1469 = .ok (.iaload, 1) := do_46 (rdb (p := 1440) (i := 29) ch_code_1440 rfl)
theorem dL_law_1470 : decode code 1470 = .ok (.aload_n 0, 1) := do_42 (rdb (p := 1440) (i := 30) ch_code_1440 rfl)
theorem dL_law_1471 : decode code 1471 = .ok (.iload_n 3, 1) := do_29 (rdb (p := 1440) (i := 31) ch_code_1440 rfl)
theorem ch_code_1472 : (code.data.toList.drop 1472).take 36 = [5, 96, 46, 42, 29, 6, 96, 46, 182, 0, 150, 87, 44, 42, 29, 4, 96, 46, 42, 29, 5, 96, 46, 42, 29, 6, 96, 46, 182, 0, 153, 87, 167, 0, 227, 43] := by decide +kernel
theorem dL_law_1472 : decode code 1472 = .ok (.iconst 2, 1) := do_5 (rdb (p := 1472) (i := 0) ch_code_1472 rfl)
theorem dL_law_1473 : decode code 1473 = .ok (.iadd, 1) := do_96 (rdb (p := 1472) (i := 1) ch_code_1472 rfl)
theorem dL_law_1474 : decode code 1474 = .ok (.iaload, 1) := do_46 (rdb (p := 1472) (i := 2) ch_code_1472 rfl)
theorem dL_law_1475 : decode code 1475 = .ok (.aload_n 0, 1) := do_42 (rdb (p := 1472) (i := 3) ch_code_1472 rfl)
theorem dL_law_1476 : decode code 1476 = .ok (.iload_n 3, 1) := do_29 (rdb (p := 1472) (i := 4) ch_code_1472 rfl)
theorem dL_law_1477 : decode code 1477 = .ok (.iconst 3, 1) := do_6 (rdb (p := 1472) (i := 5) ch_code_1472 rfl)
theorem dL_law_1478 : decode code 1478 = .ok (.iadd, 1) := do_96 (rdb (p := 1472) (i := 6) ch_code_1472 rfl)
theorem dL_law_1479 : decode code 1479 = .ok (.iaload, 1) := do_46 (rdb (p := 1472) (i := 7) ch_code_1472 rfl)
theorem dL_law_1480 : decode code 1480 = .ok (.invokevirtual 150, 3) := do_182 (rdb (p := 1472) (i := 8) ch_code_1472 rfl) (rdb (p := 1472) (i := 9) ch_code_1472 rfl) (rdb (p := 1472) (i := 10) ch_code_1472 rfl) rfl
theorem dL_law_1483 : decode code 1483 = .ok (.pop, 1) := do_87 (rdb (p := 1472) (i := 11) ch_code_1472 rfl)
theorem dL_law_1484 : decode code 1484 = .ok (.aload_n 2, 1) := do_44 (rdb (p := 1472) (i := 12) ch_code_1472 rfl)
theorem dL_law_1485 : decode code 1485 = .ok (.aload_n 0, 1) := do_42 (rdb (p := 1472) (i := 13) ch_code_1472 rfl)
theorem dL_law_1486 : decode code 1486 = .ok (.iload_n 3, 1) := do_29 (rdb (p := 1472) (i := 14) ch_code_1472 rfl)
theorem dL_law_1487 : decode code 1487 = .ok (.iconst 1, 1) := do_4 (rdb (p := 1472) (i := 15) ch_code_1472 rfl)
theorem dL_law_1488 : decode code 1488 = .ok (.iadd, 1) := do_96 (rdb (p := 1472) (i := 16) ch_code_1472 rfl)
theorem dL_law_1489 : decode code 1489 = .ok (.iaload, 1) := do_46 (rdb (p := 1472) (i := 17) ch_code_1472 rfl)
theorem dL_law_1490 : decode code 1490 = .ok (.aload_n 0, 1) := do_42 (rdb (p := 1472) (i := 18) ch_code_1472 rfl)
theorem dL_law_1491 : decode code 1491 = .ok (.iload_n 3, 1) := do_29 (rdb (p := 1472) (i := 19) ch_code_1472 rfl)
theorem dL_law_1492 : decode code 1492 = .ok (.iconst 2, 1) := do_5 (rdb (p := 1472) (i := 20) ch_code_1472 rfl)
theorem dL_law_1493 : decode code 1493 = .ok (.iadd, 1) := do_96 (rdb (p := 1472) (i := 21) ch_code_1472 rfl)
theorem dL_law_1494 : decode code 1494 = .ok (.iaload, 1) := do_46 (rdb (p := 1472) (i := 22) ch_code_1472 rfl)
theorem dL_law_1495 : decode code 1495 = .ok (.aload_n 0, 1) := do_42 (rdb (p := 1472) (i := 23) ch_code_1472 rfl)
theorem dL_law_1496 : decode code 1496 = .ok (.iload_n 3, 1) := do_29 (rdb (p := 1472) (i := 24) ch_code_1472 rfl)
theorem dL_law_1497 : decode code 1497 = .ok (.iconst 3, 1) := do_6 (rdb (p := 1472) (i := 25) ch_code_1472 rfl)
theorem dL_law_1498 : decode code 1498 = .ok (.iadd, 1) := do_96 (rdb (p := 1472) (i := 26) ch_code_1472 rfl)
theorem dL_law_1499 : decode code 1499 = .ok (.iaload, 1) := do_46 (rdb (p := 1472) (i := 27) ch_code_1472 rfl)
theorem dL_law_1500 : decode code 1500 = .ok (.invokevirtual 153, 3) := do_182 (rdb (p := 1472) (i := 28) ch_code_1472 rfl) (rdb (p := 1472) (i := 29) ch_code_1472 rfl) (rdb (p := 1472) (i := 30) ch_code_1472 rfl) rfl
theorem dL_law_1503 : decode code 1503 = .ok (.pop, 1) := do_87 (rdb (p := 1472) (i := 31) ch_code_1472 rfl)
theorem ch_code_1504 : (code.data.toList.drop 1504).take 36 = [167, 0, 227, 43, 42, 29, 4, 96, 46, 42, 29, 5, 96, 46, 42, 29, 6, 96, 46, 182, 0, 154, 87, 44, 42, 29, 4, 96, 46, 42, 29, 5, 96, 46, 42, 29] := by decide +kernel
theorem dL_law_1504 : decode code 1504 = .ok (.goto 227, 3) := do_167 (rdb (p := 1504) (i := 0) ch_code_1504 rfl) (rdb (p := 1504) (i := 1) ch_code_1504 rfl) (rdb (p := 1504) (i := 2) ch_code_1504 rfl) (by decide +kernel)
theorem dL_law_1507 : decode code 1507 = .ok (.aload_n 1, 1) := do_43 (rdb (p := 1504) (i := 3) ch_code_1504 rfl)
theorem dL_law_1508 : decode code 1508 = .ok (.aload_n 0, 1) := do_42 (rdb (p := 1504) (i := 4) ch_code_1504 rfl)
theorem dL_law_1509 : decode code 1509 = .ok (.iload_n 3, 1) := do_29 (rdb (p := 1504) (i := 5) ch_code_1504 rfl)
theorem dL_law_1510 : decode code 1510 = .ok (.iconst 1, 1) := do_4 (rdb (p := 1504) (i := 6) ch_code_1504 rfl)
theorem dL_law_1511 : decode code 1511 = .ok (.iadd, 1) := do_96 (rdb (p := 1504) (i := 7) ch_code_1504 rfl)
theorem dL_law_1512 : decode code 1512 = .ok (.iaload, 1) := do_46 (rdb (p := 1504) (i := 8) ch_code_1504 rfl)
theorem dL_law_1513 : decode code 1513 = .ok (.aload_n 0, 1) := do_42 (rdb (p := 1504) (i := 9) ch_code_1504 rfl)
theorem dL_law_1514 : decode code 1514 = .ok (.iload_n 3, 1) := do_29 (rdb (p := 1504) (i := 10) ch_code_1504 rfl)
theorem dL_law_1515 : decode code 1515 = .ok (.iconst 2, 1) := do_5 (rdb (p := 1504) (i := 11) ch_code_1504 rfl)
theorem dL_law_1516 : decode code 1516 = .ok (.iadd, 1) := do_96 (rdb (p := 1504) (i := 12) ch_code_1504 rfl)
theorem dL_law_1517 : decode code 1517 = .ok (.iaload, 1) := do_46 (rdb (p := 1504) (i := 13) ch_code_1504 rfl)
theorem dL_law_1518 : decode code 1518 = .ok (.aload_n 0, 1) := do_42 (rdb (p := 1504) (i := 14) ch_code_1504 rfl)
theorem dL_law_1519 : decode code 1519 = .ok (.iload_n 3, 1) := do_29 (rdb (p := 1504) (i := 15) ch_code_1504 rfl)
theorem dL_law_1520 : decode code 1520 = .ok (.iconst 3, 1) := do_6 (rdb (p := 1504) (i := 16) ch_code_1504 rfl)
theorem dL_law_1521 : decode code 1521 = .ok (.iadd, 1) := do_96 (rdb (p := 1504) (i := 17) ch_code_1504 rfl)
theorem dL_law_1522 : decode code 1522 = .ok (.iaload, 1) := do_46 (rdb (p := 1504) (i := 18) ch_code_1504 rfl)
theorem dL_law_1523 : decode code 1523 = .ok (.invokevirtual 154, 3) := do_182 (rdb (p := 1504) (i := 19) ch_code_1504 rfl) (rdb (p := 1504) (i := 20) ch_code_1504 rfl) (rdb (p := 1504) (i := 21) ch_code_1504 rfl) rfl
theorem dL_law_1526 : decode code 1526 = .ok (.pop, 1) := do_87 (rdb (p := 1504) (i := 22) ch_code_1504 rfl)
theorem dL_law_1527 : decode code 1527 = .ok (.aload_n 2, 1) := do_44 (rdb (p := 1504) (i := 23) ch_code_1504 rfl)
theorem dL_law_1528 : decode code 1528 = .ok (.aload_n 0, 1) := do_42 (rdb (p := 1504) (i := 24) ch_code_1504 rfl)
theorem dL_law_1529 : decode code 1529 = .ok (.iload_n 3, 1) := do_29 (rdb (p := 1504) (i := 25) ch_code_1504 rfl)
theorem dL_law_1530 : decode code 1530 = .ok (.iconst 1, 1) := do_4 (rdb (p := 1504) (i := 26) ch_code_1504 rfl)
theorem dL_law_1531 : decode code 1531 = .ok (.iadd, 1) := do_96 (rdb (p := 1504) (i := 27) ch_code_1504 rfl)
theorem dL_law_1532 : decode code 1532 = .ok (.iaload, 1) := do_46 (rdb (p := 1504) (i := 28) ch_code_1504 rfl)
theorem dL_law_1533 : decode code 1533 = .ok (.aload_n 0, 1) := do_42 (rdb (p := 1504) (i := 29) ch_code_1504 rfl)
theorem dL_law_1534 : decode code 1534 = .ok (.iload_n 3, 1) := do_29 (rdb (p := 1504) (i := 30) ch_code_1504 rfl)
theorem dL_law_1535 : decode code 1535 = .ok (.iconst 2, 1) := do_5 (rdb (p := 1504) (i := 31) ch_code_1504 rfl)
theorem ch_code_1536 : (code.data.toList.drop 1536).take 36 = [96, 46, 42, 29, 6, 96, 46, 182, 0, 157, 87, 167, 0, 184, 43, 42, 29, 4, 96, 46, 42, 29, 5, 96, 46, 42, 29, 6, 96, 46, 42, 29, 7, 96, 46, 42] := by decide +kernel
theorem dL_law_1536 : decode code 1536 = .ok (.iadd, 1) := do_96 (rdb (p := 1536) (i := 0) ch_code_1536 rfl)
theorem dL_law_1537 : decode code 1537 = .ok (.iaload, 1) := do_46 (rdb (p := 1536) (i := 1) ch_code_1536 rfl)
theorem dL_law_1538 : decode code 1538 = .ok (.aload_n 0, 1) := do_42 (rdb (p := 1536) (i := 2) ch_code_1536 rfl)
theorem dL_law_1539 : decode code 1539 = .ok (.iload_n 3, 1) := do_29 (rdb (p := 1536) (i := 3) ch_code_1536 rfl)
theorem dL_law_1540 : decode code 1540 = .ok (.iconst 3, 1) := do_6 (rdb (p := 1536) (i := 4) ch_code_1536 rfl)
theorem dL_law_1541 : decode code 1541 = .ok (.iadd, 1) := do_96 (rdb (p := 1536) (i := 5) ch_code_1536 rfl)
theorem dL_law_1542 : decode code 1542 = .ok (.iaload, 1) := do_46 (rdb (p := 1536) (i := 6) ch_code_1536 rfl)
theorem dL_law_1543 : decode code 1543 = .ok (.invokevirtual 157, 3) := do_182 (rdb (p := 1536) (i := 7) ch_code_1536 rfl) (rdb (p := 1536) (i := 8) ch_code_1536 rfl) (rdb (p := 1536) (i := 9) ch_code_1536 rfl) rfl
theorem dL_law_1546 : decode code 1546 = .ok (.pop, 1) := do_87 (rdb (p := 1536) (i := 10) ch_code_1536 rfl)
theorem dL_law_1547 : decode code 1547 = .ok (.goto 184, 3) := do_167 (rdb (p := 1536) (i := 11) ch_code_1536 rfl) (rdb (p := 1536) (i := 12) ch_code_1536 rfl) (rdb (p := 1536) (i := 13) ch_code_1536 rfl) (by decide +kernel)
theorem dL_law_1550 : decode code 1550 = .ok (.aload_n 1, 1) := do_43 (rdb (p := 1536) (i := 14) ch_code_1536 rfl)
theorem dL_law_1551 : decode code 1551 = .ok (.aload_n 0, 1) := do_42 (rdb (p := 1536) (i := 15) ch_code_1536 rfl)
theorem dL_law_1552 : decode code 1552 = .ok (.iload_n 3, 1) := do_29 (rdb (p := 1536) (i := 16) ch_code_1536 rfl)
theorem dL_law_1553 : decode code 1553 = .ok (.iconst 1, 1) := do_4 (rdb (p := 1536) (i := 17) ch_code_1536 rfl)
theorem dL_law_1554 : decode code 1554 = .ok (.iadd, 1) := do_96 (rdb (p := 1536) (i := 18) ch_code_1536 rfl)
theorem dL_law_1555 : decode code 1555 = .ok (.iaload, 1) := do_46 (rdb (p := 1536) (i := 19) ch_code_1536 rfl)
theorem dL_law_1556 : decode code 1556 = .ok (.aload_n 0, 1) := do_42 (rdb (p := 1536) (i := 20) ch_code_1536 rfl)
theorem dL_law_1557 : decode code 1557 = .ok (.iload_n 3, 1) := do_29 (rdb (p := 1536) (i := 21) ch_code_1536 rfl)
theorem dL_law_1558 : decode code 1558 = .ok (.iconst 2, 1) := do_5 (rdb (p := 1536) (i := 22) ch_code_1536 rfl)
theorem dL_law_1559 : decode code 1559 = .ok (.iadd, 1) := do_96 (rdb (p := 1536) (i := 23) ch_code_1536 rfl)
theorem dL_law_1560 : decode code 1560 = .ok (.iaload, 1) := do_46 (rdb (p := 1536) (i := 24) ch_code_1536 rfl)
theorem dL_law_1561 : decode code 1561 = .ok (.aload_n 0, 1) := do_42 (rdb (p := 1536) (i := 25) ch_code_1536 rfl)
theorem dL_law_1562 : decode code 1562 = .ok (.iload_n 3, 1) := do_29 (rdb (p := 1536) (i := 26) ch_code_1536 rfl)
theorem dL_law_1563 : decode code 1563 = .ok (.iconst 3, 1) := do_6 (rdb (p := 1536) (i := 27) ch_code_1536 rfl)
theorem dL_law_1564 : decode code 1564 = .ok (.iadd, 1) := do_96 (rdb (p := 1536) (i := 28) ch_code_1536 rfl)
theorem dL_law_1565 : decode code 1565 = .ok (.iaload, 1) := do_46 (rdb (p := 1536) (i := 29) ch_code_1536 rfl)
theorem dL_law_1566 : decode code 1566 = .ok (.aload_n 0, 1) := do_42 (rdb (p := 1536) (i := 30) ch_code_1536 rfl)
theorem dL_law_1567 : decode code 1567 = .ok (.iload_n 3, 1) := do_29 (rdb (p := 1536) (i := 31) ch_code_1536 rfl)
theorem ch_code_1568 : (code.data.toList.drop 1568).take 36 = [7, 96, 46, 42, 29, 8, 96, 46, 182, 0, 158, 87, 44, 42, 29, 4, 96, 46, 42, 29, 5, 96, 46, 42, 29, 6, 96, 46, 42, 29, 7, 96, 46, 42, 29, 8] := by decide +kernel
theorem dL_law_1568 : decode code 1568 = .ok (.iconst 4, 1) := do_7 (rdb (p := 1568) (i := 0) ch_code_1568 rfl)
theorem dL_law_1569 : decode code 1569 = .ok (.iadd, 1) := do_96 (rdb (p := 1568) (i := 1) ch_code_1568 rfl)
theorem dL_law_1570 : decode code 1570 = .ok (.iaload, 1) := do_46 (rdb (p := 1568) (i := 2) ch_code_1568 rfl)
theorem dL_law_1571 : decode code 1571 = .ok (.aload_n 0, 1) := do_42 (rdb (p := 1568) (i := 3) ch_code_1568 rfl)
theorem dL_law_1572 : decode code 1572 = .ok (.iload_n 3, 1) := do_29 (rdb (p := 1568) (i := 4) ch_code_1568 rfl)
theorem dL_law_1573 : decode code 1573 = .ok (.iconst 5, 1) := do_8 (rdb (p := 1568) (i := 5) ch_code_1568 rfl)
theorem dL_law_1574 : decode code 1574 = .ok (.iadd, 1) := do_96 (rdb (p := 1568) (i := 6) ch_code_1568 rfl)
theorem dL_law_1575 : decode code 1575 = .ok (.iaload, 1) := do_46 (rdb (p := 1568) (i := 7) ch_code_1568 rfl)
theorem dL_law_1576 : decode code 1576 = .ok (.invokevirtual 158, 3) := do_182 (rdb (p := 1568) (i := 8) ch_code_1568 rfl) (rdb (p := 1568) (i := 9) ch_code_1568 rfl) (rdb (p := 1568) (i := 10) ch_code_1568 rfl) rfl
theorem dL_law_1579 : decode code 1579 = .ok (.pop, 1) := do_87 (rdb (p := 1568) (i := 11) ch_code_1568 rfl)
theorem dL_law_1580 : decode code 1580 = .ok (.aload_n 2, 1) := do_44 (rdb (p := 1568) (i := 12) ch_code_1568 rfl)
theorem dL_law_1581 : decode code 1581 = .ok (.aload_n 0, 1) := do_42 (rdb (p := 1568) (i := 13) ch_code_1568 rfl)
theorem dL_law_1582 : decode code 1582 = .ok (.iload_n 3, 1) := do_29 (rdb (p := 1568) (i := 14) ch_code_1568 rfl)
theorem dL_law_1583 : decode code 1583 = .ok (.iconst 1, 1) := do_4 (rdb (p := 1568) (i := 15) ch_code_1568 rfl)
theorem dL_law_1584 : decode code 1584 = .ok (.iadd, 1) := do_96 (rdb (p := 1568) (i := 16) ch_code_1568 rfl)
theorem dL_law_1585 : decode code 1585 = .ok (.iaload, 1) := do_46 (rdb (p := 1568) (i := 17) ch_code_1568 rfl)
theorem dL_law_1586 : decode code 1586 = .ok (.aload_n 0, 1) := do_42 (rdb (p := 1568) (i := 18) ch_code_1568 rfl)
theorem dL_law_1587 : decode code 1587 = .ok (.iload_n 3, 1) := do_29 (rdb (p := 1568) (i := 19) ch_code_1568 rfl)
theorem dL_law_1588 : decode code 1588 = .ok (.iconst 2, 1) := do_5 (rdb (p := 1568) (i := 20) ch_code_1568 rfl)
theorem dL_law_1589 : decode code 1589 = .ok (.iadd, 1) := do_96 (rdb (p := 1568) (i := 21) ch_code_1568 rfl)
theorem dL_law_1590 : decode code 1590 = .ok (.iaload, 1) := do_46 (rdb (p := 1568) (i := 22) ch_code_1568 rfl)
theorem dL_law_1591 : decode code 1591 = .ok (.aload_n 0, 1) := do_42 (rdb (p := 1568) (i := 23) ch_code_1568 rfl)
theorem dL_law_1592 : decode code 1592 = .ok (.iload_n 3, 1) := do_29 (rdb (p := 1568) (i := 24) ch_code_1568 rfl)
theorem dL_law_1593 : decode code 1593 = .ok (.iconst 3, 1) := do_6 (rdb (p := 1568) (i := 25) ch_code_1568 rfl)
theorem dL_law_1594 : decode code 1594 = .ok (.iadd, 1) := do_96 (rdb (p := 1568) (i := 26) ch_code_1568 rfl)
theorem dL_law_1595 : decode code 1595 = .ok (.iaload, 1) := do_46 (rdb (p := 1568) (i := 27) ch_code_1568 rfl)
theorem dL_law_1596 : decode code 1596 = .ok (.aload_n 0, 1) := do_42 (rdb (p := 1568) (i := 28) ch_code_1568 rfl)
theorem dL_law_1597 : decode code 1597 = .ok (.iload_n 3, 1) := do_29 (rdb (p := 1568) (i := 29) ch_code_1568 rfl)
theorem dL_law_1598 : decode code 1598 = .ok (.iconst 4, 1) := do_7 (rdb (p := 1568) (i := 30) ch_code_1568 rfl)
theorem dL_law_1599 : decode code 1599 = .ok (.iadd, 1) := do_96 (rdb (p := 1568) (i := 31) ch_code_1568 rfl)
theorem ch_code_1600 : (code.data.toList.drop 1600).take 36 = [46, 42, 29, 8, 96, 46, 182, 0, 161, 87, 167, 0, 121, 43, 182, 0, 162, 87, 44, 182, 0, 166, 87, 167, 0, 108, 43, 182, 0, 167, 44, 182, 0, 170, 159, 0] := by decide +kernel
theorem dL_law_1600 : decode code 1600 = .ok (.iaload, 1) := do_46 (rdb (p := 1600) (i := 0) ch_code_1600 rfl)
theorem dL_law_1601 : decode code 1601 = .ok (.aload_n 0, 1) := do_42 (rdb (p := 1600) (i := 1) ch_code_1600 rfl)
theorem dL_law_1602 : decode code 1602 = .ok (.iload_n 3, 1) := do_29 (rdb (p := 1600) (i := 2) ch_code_1600 rfl)
theorem dL_law_1603 : decode code 1603 = .ok (.iconst 5, 1) := do_8 (rdb (p := 1600) (i := 3) ch_code_1600 rfl)
theorem dL_law_1604 : decode code 1604 = .ok (.iadd, 1) := do_96 (rdb (p := 1600) (i := 4) ch_code_1600 rfl)
theorem dL_law_1605 : decode code 1605 = .ok (.iaload, 1) := do_46 (rdb (p := 1600) (i := 5) ch_code_1600 rfl)
theorem dL_law_1606 : decode code 1606 = .ok (.invokevirtual 161, 3) := do_182 (rdb (p := 1600) (i := 6) ch_code_1600 rfl) (rdb (p := 1600) (i := 7) ch_code_1600 rfl) (rdb (p := 1600) (i := 8) ch_code_1600 rfl) rfl
theorem dL_law_1609 : decode code 1609 = .ok (.pop, 1) := do_87 (rdb (p := 1600) (i := 9) ch_code_1600 rfl)
theorem dL_law_1610 : decode code 1610 = .ok (.goto 121, 3) := do_167 (rdb (p := 1600) (i := 10) ch_code_1600 rfl) (rdb (p := 1600) (i := 11) ch_code_1600 rfl) (rdb (p := 1600) (i := 12) ch_code_1600 rfl) (by decide +kernel)
theorem dL_law_1613 : decode code 1613 = .ok (.aload_n 1, 1) := do_43 (rdb (p := 1600) (i := 13) ch_code_1600 rfl)
theorem dL_law_1614 : decode code 1614 = .ok (.invokevirtual 162, 3) := do_182 (rdb (p := 1600) (i := 14) ch_code_1600 rfl) (rdb (p := 1600) (i := 15) ch_code_1600 rfl) (rdb (p := 1600) (i := 16) ch_code_1600 rfl) rfl
theorem dL_law_1617 : decode code 1617 = .ok (.pop, 1) := do_87 (rdb (p := 1600) (i := 17) ch_code_1600 rfl)
theorem dL_law_1618 : decode code 1618 = .ok (.aload_n 2, 1) := do_44 (rdb (p := 1600) (i := 18) ch_code_1600 rfl)
theorem dL_law_1619 : decode code 1619 = .ok (.invokevirtual 166, 3) := do_182 (rdb (p := 1600) (i := 19) ch_code_1600 rfl) (rdb (p := 1600) (i := 20) ch_code_1600 rfl) (rdb (p := 1600) (i := 21) ch_code_1600 rfl) rfl
theorem dL_law_1622 : decode code 1622 = .ok (.pop, 1) := do_87 (rdb (p := 1600) (i := 22) ch_code_1600 rfl)
theorem dL_law_1623 : decode code 1623 = .ok (.goto 108, 3) := do_167 (rdb (p := 1600) (i := 23) ch_code_1600 rfl) (rdb (p := 1600) (i := 24) ch_code_1600 rfl) (rdb (p := 1600) (i := 25) ch_code_1600 rfl) (by decide +kernel)
theorem dL_law_1626 : decode code 1626 = .ok (.aload_n 1, 1) := do_43 (rdb (p := 1600) (i := 26) ch_code_1600 rfl)
theorem dL_law_1627 : decode code 1627 = .ok (.invokevirtual 167, 3) := do_182 (rdb (p := 1600) (i := 27) ch_code_1600 rfl) (rdb (p := 1600) (i := 28) ch_code_1600 rfl) (rdb (p := 1600) (i := 29) ch_code_1600 rfl) rfl
theorem dL_law_1630 : decode code 1630 = .ok (.aload_n 2, 1) := do_44 (rdb (p := 1600) (i := 30) ch_code_1600 rfl)
theorem dL_law_1631 : decode code 1631 = .ok (.invokevirtual 170, 3) := do_182 (rdb (p := 1600) (i := 31) ch_code_1600 rfl) (rdb (p := 1600) (i := 32) ch_code_1600 rfl) (rdb (p := 1600) (i := 33) ch_code_1600 rfl) rfl
theorem ch_code_1632 : (code.data.toList.drop 1632).take 36 = [0, 170, 159, 0, 97, 3, 172, 43, 42, 29, 4, 96, 46, 182, 0, 171, 87, 44, 42, 29, 4, 96, 46, 182, 0, 174, 87, 167, 0, 72, 43, 42, 29, 4, 96, 46] := by decide +kernel
theorem dL_law_1634 : decode code 1634 = .ok (.if_icmp .eq 97, 3) := do_159 (rdb (p := 1632) (i := 2) ch_code_1632 rfl) (rdb (p := 1632) (i := 3) ch_code_1632 rfl) (rdb (p := 1632) (i := 4) ch_code_1632 rfl) (by decide +kernel)
theorem dL_law_1639 : decode code 1639 = .ok (.aload_n 1, 1) := do_43 (rdb (p := 1632) (i := 7) ch_code_1632 rfl)
theorem dL_law_1640 : decode code 1640 = .ok (.aload_n 0, 1) := do_42 (rdb (p := 1632) (i := 8) ch_code_1632 rfl)
theorem dL_law_1641 : decode code 1641 = .ok (.iload_n 3, 1) := do_29 (rdb (p := 1632) (i := 9) ch_code_1632 rfl)
theorem dL_law_1642 : decode code 1642 = .ok (.iconst 1, 1) := do_4 (rdb (p := 1632) (i := 10) ch_code_1632 rfl)
theorem dL_law_1643 : decode code 1643 = .ok (.iadd, 1) := do_96 (rdb (p := 1632) (i := 11) ch_code_1632 rfl)
theorem dL_law_1644 : decode code 1644 = .ok (.iaload, 1) := do_46 (rdb (p := 1632) (i := 12) ch_code_1632 rfl)
theorem dL_law_1645 : decode code 1645 = .ok (.invokevirtual 171, 3) := do_182 (rdb (p := 1632) (i := 13) ch_code_1632 rfl) (rdb (p := 1632) (i := 14) ch_code_1632 rfl) (rdb (p := 1632) (i := 15) ch_code_1632 rfl) rfl
theorem dL_law_1648 : decode code 1648 = .ok (.pop, 1) := do_87 (rdb (p := 1632) (i := 16) ch_code_1632 rfl)
theorem dL_law_1649 : decode code 1649 = .ok (.aload_n 2, 1) := do_44 (rdb (p := 1632) (i := 17) ch_code_1632 rfl)
theorem dL_law_1650 : decode code 1650 = .ok (.aload_n 0, 1) := do_42 (rdb (p := 1632) (i := 18) ch_code_1632 rfl)
theorem dL_law_1651 : decode code 1651 = .ok (.iload_n 3, 1) := do_29 (rdb (p := 1632) (i := 19) ch_code_1632 rfl)
theorem dL_law_1652 : decode code 1652 = .ok (.iconst 1, 1) := do_4 (rdb (p := 1632) (i := 20) ch_code_1632 rfl)
theorem dL_law_1653 : decode code 1653 = .ok (.iadd, 1) := do_96 (rdb (p := 1632) (i := 21) ch_code_1632 rfl)
theorem dL_law_1654 : decode code 1654 = .ok (.iaload, 1) := do_46 (rdb (p := 1632) (i := 22) ch_code_1632 rfl)
theorem dL_law_1655 : decode code 1655 = .ok (.invokevirtual 174, 3) := do_182 (rdb (p := 1632) (i := 23) ch_code_1632 rfl) (rdb (p := 1632) (i := 24) ch_code_1632 rfl) (rdb (p := 1632) (i := 25) ch_code_1632 rfl) rfl
theorem dL_law_1658 : decode code 1658 = .ok (.pop, 1) := do_87 (rdb (p := 1632) (i := 26) ch_code_1632 rfl)
theorem dL_law_1659 : decode code 1659 = .ok (.goto 72, 3) := do_167 (rdb (p := 1632) (i := 27) ch_code_1632 rfl) (rdb (p := 1632) (i := 28) ch_code_1632 rfl) (rdb (p := 1632) (i := 29) ch_code_1632 rfl) (by decide +kernel)
theorem dL_law_1662 : decode code 1662 = .ok (.aload_n 1, 1) := do_43 (rdb (p := 1632) (i := 30) ch_code_1632 rfl)
theorem dL_law_1663 : decode code 1663 = .ok (.aload_n 0, 1) := do_42 (rdb (p := 1632) (i := 31) ch_code_1632 rfl)
theorem ch_code_1664 : (code.data.toList.drop 1664).take 36 = [29, 4, 96, 46, 182, 0, 175, 87, 44, 42, 29, 4, 96, 46, 182, 0, 178, 87, 167, 0, 49, 43, 42, 29, 4, 96, 46, 182, 0, 179, 87, 44, 42, 29, 4, 96] := by decide +kernel
theorem dL_law_1664 : decode code 1664 = .ok (.iload_n 3, 1) := do_29 (rdb (p := 1664) (i := 0) ch_code_1664 rfl)
theorem dL_law_1665 : decode code 1665 = .ok (.iconst 1, 1) := do_4 (rdb (p := 1664) (i := 1) ch_code_1664 rfl)
theorem dL_law_1666 : decode code 1666 = .ok (.iadd, 1) := do_96 (rdb (p := 1664) (i := 2) ch_code_1664 rfl)
theorem dL_law_1667 : decode code 1667 = .ok (.iaload, 1) := do_46 (rdb (p := 1664) (i := 3) ch_code_1664 rfl)
theorem dL_law_1668 : decode code 1668 = .ok (.invokevirtual 175, 3) := do_182 (rdb (p := 1664) (i := 4) ch_code_1664 rfl) (rdb (p := 1664) (i := 5) ch_code_1664 rfl) (rdb (p := 1664) (i := 6) ch_code_1664 rfl) rfl
theorem dL_law_1671 : decode code 1671 = .ok (.pop, 1) := do_87 (rdb (p := 1664) (i := 7) ch_code_1664 rfl)
theorem dL_law_1672 : decode code 1672 = .ok (.aload_n 2, 1) := do_44 (rdb (p := 1664) (i := 8) ch_code_1664 rfl)
theorem dL_law_1673 : decode code 1673 = .ok (.aload_n 0, 1) := do_42 (rdb (p := 1664) (i := 9) ch_code_1664 rfl)
theorem dL_law_1674 : decode code 1674 = .ok (.iload_n 3, 1) := do_29 (rdb (p := 1664) (i := 10) ch_code_1664 rfl)
theorem dL_law_1675 : decode code 1675 = .ok (.iconst 1, 1) := do_4 (rdb (p := 1664) (i := 11) ch_code_1664 rfl)
theorem dL_law_1676 : decode code 1676 = .ok (.iadd, 1) := do_96 (rdb (p := 1664) (i := 12) ch_code_1664 rfl)
theorem dL_law_1677 : decode code 1677 = .ok (.iaload, 1) := do_46 (rdb (p := 1664) (i := 13) ch_code_1664 rfl)
theorem dL_law_1678 : decode code 1678 = .ok (.invokevirtual 178, 3) := do_182 (rdb (p := 1664) (i := 14) ch_code_1664 rfl) (rdb (p := 1664) (i := 15) ch_code_1664 rfl) (rdb (p := 1664) (i := 16) ch_code_1664 rfl) rfl
theorem dL_law_1681 : decode code 1681 = .ok (.pop, 1) := do_87 (rdb (p := 1664) (i := 17) ch_code_1664 rfl)
theorem dL_law_1682 : decode code 1682 = .ok (.goto 49, 3) := do_167 (rdb (p := 1664) (i := 18) ch_code_1664 rfl) (rdb (p := 1664) (i := 19) ch_code_1664 rfl) (rdb (p := 1664) (i := 20) ch_code_1664 rfl) (by decide +kernel)
theorem dL_law_1685 : decode code 1685 = .ok (.aload_n 1, 1) := do_43 (rdb (p := 1664) (i := 21) ch_code_1664 rfl)
theorem dL_law_1686 : decode code 1686 = .ok (.aload_n 0, 1) := do_42 (rdb (p := 1664) (i := 22) ch_code_1664 rfl)
theorem dL_law_1687 : decode code 1687 = .ok (.iload_n 3, 1) := do_29 (rdb (p := 1664) (i := 23) ch_code_1664 rfl)
theorem dL_law_1688 : decode code 1688 = .ok (.iconst 1, 1) := do_4 (rdb (p := 1664) (i := 24) ch_code_1664 rfl)
theorem dL_law_1689 : decode code 1689 = .ok (.iadd, 1) := do_96 (rdb (p := 1664) (i := 25) ch_code_1664 rfl)
theorem dL_law_1690 : decode code 1690 = .ok (.iaload, 1) := do_46 (rdb (p := 1664) (i := 26) ch_code_1664 rfl)
theorem dL_law_1691 : decode code 1691 = .ok (.invokevirtual 179, 3) := do_182 (rdb (p := 1664) (i := 27) ch_code_1664 rfl) (rdb (p := 1664) (i := 28) ch_code_1664 rfl) (rdb (p := 1664) (i := 29) ch_code_1664 rfl) rfl
theorem dL_law_1694 : decode code 1694 = .ok (.pop, 1) := do_87 (rdb (p := 1664) (i := 30) ch_code_1664 rfl)
theorem dL_law_1695 : decode code 1695 = .ok (.aload_n 2, 1) := do_44 (rdb (p := 1664) (i := 31) ch_code_1664 rfl)
theorem ch_code_1696 : (code.data.toList.drop 1696).take 36 = [42, 29, 4, 96, 46, 182, 0, 182, 87, 167, 0, 26, 43, 42, 29, 4, 96, 46, 182, 0, 183, 87, 44, 42, 29, 4, 96, 46, 182, 0, 186, 87, 167, 0, 3, 132] := by decide +kernel
theorem dL_law_1696 : decode code 1696 = .ok (.aload_n 0, 1) := do_42 (rdb (p := 1696) (i := 0) ch_code_1696 rfl)
theorem dL_law_1697 : decode code 1697 = .ok (.iload_n 3, 1) := do_29 (rdb (p := 1696) (i := 1) ch_code_1696 rfl)
theorem dL_law_1698 : decode code 1698 = .ok (.iconst 1, 1) := do_4 (rdb (p := 1696) (i := 2) ch_code_1696 rfl)
theorem dL_law_1699 : decode code 1699 = .ok (.iadd, 1) := do_96 (rdb (p := 1696) (i := 3) ch_code_1696 rfl)
theorem dL_law_1700 : decode code 1700 = .ok (.iaload, 1) := do_46 (rdb (p := 1696) (i := 4) ch_code_1696 rfl)
theorem dL_law_1701 : decode code 1701 = .ok (.invokevirtual 182, 3) := do_182 (rdb (p := 1696) (i := 5) ch_code_1696 rfl) (rdb (p := 1696) (i := 6) ch_code_1696 rfl) (rdb (p := 1696) (i := 7) ch_code_1696 rfl) rfl
theorem dL_law_1704 : decode code 1704 = .ok (.pop, 1) := do_87 (rdb (p := 1696) (i := 8) ch_code_1696 rfl)
theorem dL_law_1705 : decode code 1705 = .ok (.goto 26, 3) := do_167 (rdb (p := 1696) (i := 9) ch_code_1696 rfl) (rdb (p := 1696) (i := 10) ch_code_1696 rfl) (rdb (p := 1696) (i := 11) ch_code_1696 rfl) (by decide +kernel)
theorem dL_law_1708 : decode code 1708 = .ok (.aload_n 1, 1) := do_43 (rdb (p := 1696) (i := 12) ch_code_1696 rfl)
theorem dL_law_1709 : decode code 1709 = .ok (.aload_n 0, 1) := do_42 (rdb (p := 1696) (i := 13) ch_code_1696 rfl)
theorem dL_law_1710 : decode code 1710 = .ok (.iload_n 3, 1) := do_29 (rdb (p := 1696) (i := 14) ch_code_1696 rfl)
theorem dL_law_1711 : decode code 1711 = .ok (.iconst 1, 1) := do_4 (rdb (p := 1696) (i := 15) ch_code_1696 rfl)
theorem dL_law_1712 : decode code 1712 = .ok (.iadd, 1) := do_96 (rdb (p := 1696) (i := 16) ch_code_1696 rfl)
theorem dL_law_1713 : decode code 1713 = .ok (.iaload, 1) := do_46 (rdb (p := 1696) (i := 17) ch_code_1696 rfl)
theorem dL_law_1714 : decode code 1714 = .ok (.invokevirtual 183, 3) := do_182 (rdb (p := 1696) (i := 18) ch_code_1696 rfl) (rdb (p := 1696) (i := 19) ch_code_1696 rfl) (rdb (p := 1696) (i := 20) ch_code_1696 rfl) rfl
theorem dL_law_1717 : decode code 1717 = .ok (.pop, 1) := do_87 (rdb (p := 1696) (i := 21) ch_code_1696 rfl)
theorem dL_law_1718 : decode code 1718 = .ok (.aload_n 2, 1) := do_44 (rdb (p := 1696) (i := 22) ch_code_1696 rfl)
theorem dL_law_1719 : decode code 1719 = .ok (.aload_n 0, 1) := do_42 (rdb (p := 1696) (i := 23) ch_code_1696 rfl)
theorem dL_law_1720 : decode code 1720 = .ok (.iload_n 3, 1) := do_29 (rdb (p := 1696) (i := 24) ch_code_1696 rfl)
theorem dL_law_1721 : decode code 1721 = .ok (.iconst 1, 1) := do_4 (rdb (p := 1696) (i := 25) ch_code_1696 rfl)
theorem dL_law_1722 : decode code 1722 = .ok (.iadd, 1) := do_96 (rdb (p := 1696) (i := 26) ch_code_1696 rfl)
theorem dL_law_1723 : decode code 1723 = .ok (.iaload, 1) := do_46 (rdb (p := 1696) (i := 27) ch_code_1696 rfl)
theorem dL_law_1724 : decode code 1724 = .ok (.invokevirtual 186, 3) := do_182 (rdb (p := 1696) (i := 28) ch_code_1696 rfl) (rdb (p := 1696) (i := 29) ch_code_1696 rfl) (rdb (p := 1696) (i := 30) ch_code_1696 rfl) rfl
theorem dL_law_1727 : decode code 1727 = .ok (.pop, 1) := do_87 (rdb (p := 1696) (i := 31) ch_code_1696 rfl)
theorem ch_code_1728 : (code.data.toList.drop 1728).take 36 = [167, 0, 3, 132, 3, 6, 167, 249, 76, 4, 172] := by decide +kernel
theorem dL_law_1728 : decode code 1728 = .ok (.goto 3, 3) := do_167 (rdb (p := 1728) (i := 0) ch_code_1728 rfl) (rdb (p := 1728) (i := 1) ch_code_1728 rfl) (rdb (p := 1728) (i := 2) ch_code_1728 rfl) (by decide +kernel)
end
section
set_option maxHeartbeats 4000000 in
set_option maxRecDepth 100000 in
theorem law_case_0 {p : Program} {l : Launch} {e : Env} {s : State} {m : MethodId} {below : List Frame} {meth : Method} {c : Code} {b L : Nat} {xs : Nat → Int32} {A : Nat → Prop} {G : va_G} {cy : Nat → ClassId} {ad : rf → Nat} {ce sl : Nat} {Z : State → Prop} (X : LX p s m c b L xs A G cy ad ce sl) {i : Int32} {M : mM} (hI : Inv M) (hD : InvD M) (hR : RXz M.1) (hi : 0 ≤ i.toInt ∧ i.toInt + 6 ≤ (L : Int)) (hend : ∀ M' : mM, Inv M' → InvD M' → RXz M'.1 → WL p l e s m below meth c b A G cy ad ce sl Z 1731 [(3, vI i), (0, vR (94, 0, 0)), (1, vR (11, 0, 0)), (2, vR (12, 0, 0))] [] M') : WL p l e s m below meth c b A G cy ad ce sl Z 212 [(3, vI i), (0, vR (94, 0, 0)), (1, vR (11, 0, 0)), (2, vR (12, 0, 0))] [] M := by
  refine wl_aload_n X dL_law_212 rfl 2 rfl ?_
  refine wl_arg X 1 hi (by decide) (v := 1) (by decide) (ki := 1) (by decide) 1 0 rfl rfl dL_law_213 dL_law_214 dL_law_215 dL_law_216 dL_law_217 ?_
  refine wl_arg X 2 hi (by decide) (v := 2) (by decide) (ki := 2) (by decide) 1 0 rfl rfl dL_law_218 dL_law_219 dL_law_220 dL_law_221 dL_law_222 ?_
  refine wl_callC X (as := [vI (xs (i.toInt.toNat + 1)), vI (xs (i.toInt.toNat + 2))]) (rest := []) (c_X11_thing l G cy ad 0 (xs (i.toInt.toNat + 1)) (xs (i.toInt.toNat + 2)) M hI) kV_X11_thing pnn_0 (Nat.le_of_ble_eq_true rfl) m_487 rfl rfl rfl (by decide) (Nat.le_of_ble_eq_true rfl) (Nat.le_of_ble_eq_true rfl) dL_law_223 (fun r1_ M2_ q3_ => ?_)
  obtain ⟨hI1_, hF1_, -, hs1_⟩ := q3_
  have e1_ : mgC M2_ M = M2_ := mgC_self hF1_ SC_X11_thing
  rw [e1_]
  have hD1_ : InvD M2_ := e1_ ▸ mgC_D (M' := M2_) hD
  refine wl_pop X dL_law_226 ?_
  refine wl_aload_n X dL_law_227 rfl 3 rfl ?_
  refine wl_arg X 1 hi (by decide) (v := 1) (by decide) (ki := 1) (by decide) 1 0 rfl rfl dL_law_228 dL_law_229 dL_law_230 dL_law_231 dL_law_232 ?_
  refine wl_arg X 2 hi (by decide) (v := 2) (by decide) (ki := 2) (by decide) 1 0 rfl rfl dL_law_233 dL_law_234 dL_law_235 dL_law_236 dL_law_237 ?_
  refine wl_callD X (as := [vI (xs (i.toInt.toNat + 1)), vI (xs (i.toInt.toNat + 2))]) (rest := []) (c_X12_thing_ l G cy ad 0 (xs (i.toInt.toNat + 1)) (xs (i.toInt.toNat + 2)) M2_ hD1_) kV_X12_thing_ pnn_17 (Nat.le_of_ble_eq_true rfl) m_1423 rfl rfl rfl (by decide) (Nat.le_of_ble_eq_true rfl) (Nat.le_of_ble_eq_true rfl) dL_law_238 (fun r4_ M5_ q6_ => ?_)
  obtain ⟨hI2_, hF2_, -, hs2_⟩ := q6_
  have e2_ : (mgD M5_ M2_).1 = M5_.1 := mgD_self hF2_ SD_X12_thing_
  have hI9_ : Inv (mgD M5_ M2_) := mgD_I hI1_
  have hD9_ : InvD (mgD M5_ M2_) := mgD_D hI2_
  have st_ := st_0 hR hD hF1_ hs1_ hF2_ hs2_
  refine wl_pop X dL_law_241 ?_
  refine wl_goto X (tgt := 1731) dL_law_242 (by decide) ?_
  exact hend _ hI9_ hD9_ (by rw [e2_]; exact st_.1)
set_option maxHeartbeats 4000000 in
set_option maxRecDepth 100000 in
theorem law_case_1 {p : Program} {l : Launch} {e : Env} {s : State} {m : MethodId} {below : List Frame} {meth : Method} {c : Code} {b L : Nat} {xs : Nat → Int32} {A : Nat → Prop} {G : va_G} {cy : Nat → ClassId} {ad : rf → Nat} {ce sl : Nat} {Z : State → Prop} (X : LX p s m c b L xs A G cy ad ce sl) {i : Int32} {M : mM} (hI : Inv M) (hD : InvD M) (hR : RXz M.1) (hi : 0 ≤ i.toInt ∧ i.toInt + 6 ≤ (L : Int)) (hend : ∀ M' : mM, Inv M' → InvD M' → RXz M'.1 → WL p l e s m below meth c b A G cy ad ce sl Z 1731 [(3, vI i), (0, vR (94, 0, 0)), (1, vR (11, 0, 0)), (2, vR (12, 0, 0))] [] M') : WL p l e s m below meth c b A G cy ad ce sl Z 245 [(3, vI i), (0, vR (94, 0, 0)), (1, vR (11, 0, 0)), (2, vR (12, 0, 0))] [] M := by
  refine wl_aload_n X dL_law_245 rfl 2 rfl ?_
  refine wl_arg X 1 hi (by decide) (v := 1) (by decide) (ki := 1) (by decide) 1 0 rfl rfl dL_law_246 dL_law_247 dL_law_248 dL_law_249 dL_law_250 ?_
  refine wl_arg X 2 hi (by decide) (v := 2) (by decide) (ki := 2) (by decide) 1 0 rfl rfl dL_law_251 dL_law_252 dL_law_253 dL_law_254 dL_law_255 ?_
  refine wl_callC X (as := [vI (xs (i.toInt.toNat + 1)), vI (xs (i.toInt.toNat + 2))]) (rest := []) (c_X11_thingIs l G cy ad 0 (xs (i.toInt.toNat + 1)) (xs (i.toInt.toNat + 2)) M hI) kV_X11_thingIs pnn_0 (Nat.le_of_ble_eq_true rfl) m_522 rfl rfl rfl (by decide) (Nat.le_of_ble_eq_true rfl) (Nat.le_of_ble_eq_true rfl) dL_law_256 (fun r1_ M2_ q3_ => ?_)
  obtain ⟨hI1_, hF1_, -, hs1_⟩ := q3_
  have e1_ : mgC M2_ M = M2_ := mgC_self hF1_ SC_X11_thingIs
  rw [e1_]
  have hD1_ : InvD M2_ := e1_ ▸ mgC_D (M' := M2_) hD
  refine wl_pop X dL_law_259 ?_
  refine wl_aload_n X dL_law_260 rfl 3 rfl ?_
  refine wl_arg X 1 hi (by decide) (v := 1) (by decide) (ki := 1) (by decide) 1 0 rfl rfl dL_law_261 dL_law_262 dL_law_263 dL_law_264 dL_law_265 ?_
  refine wl_arg X 2 hi (by decide) (v := 2) (by decide) (ki := 2) (by decide) 1 0 rfl rfl dL_law_266 dL_law_267 dL_law_268 dL_law_269 dL_law_270 ?_
  refine wl_callD X (as := [vI (xs (i.toInt.toNat + 1)), vI (xs (i.toInt.toNat + 2))]) (rest := []) (c_X12_thingIs l G cy ad 0 (xs (i.toInt.toNat + 1)) (xs (i.toInt.toNat + 2)) M2_ hD1_) kV_X12_thingIs pnn_17 (Nat.le_of_ble_eq_true rfl) m_1461 rfl rfl rfl (by decide) (Nat.le_of_ble_eq_true rfl) (Nat.le_of_ble_eq_true rfl) dL_law_271 (fun r4_ M5_ q6_ => ?_)
  obtain ⟨hI2_, hF2_, -, hs2_⟩ := q6_
  have e2_ : (mgD M5_ M2_).1 = M5_.1 := mgD_self hF2_ SD_X12_thingIs
  have hI9_ : Inv (mgD M5_ M2_) := mgD_I hI1_
  have hD9_ : InvD (mgD M5_ M2_) := mgD_D hI2_
  have st_ := st_1 hR hD hF1_ hs1_ hF2_ hs2_
  refine wl_pop X dL_law_274 ?_
  refine wl_goto X (tgt := 1731) dL_law_275 (by decide) ?_
  exact hend _ hI9_ hD9_ (by rw [e2_]; exact st_.1)
set_option maxHeartbeats 4000000 in
set_option maxRecDepth 100000 in
theorem law_case_2 {p : Program} {l : Launch} {e : Env} {s : State} {m : MethodId} {below : List Frame} {meth : Method} {c : Code} {b L : Nat} {xs : Nat → Int32} {A : Nat → Prop} {G : va_G} {cy : Nat → ClassId} {ad : rf → Nat} {ce sl : Nat} {Z : State → Prop} (X : LX p s m c b L xs A G cy ad ce sl) {i : Int32} {M : mM} (hI : Inv M) (hD : InvD M) (hR : RXz M.1) (hi : 0 ≤ i.toInt ∧ i.toInt + 6 ≤ (L : Int)) (hend : ∀ M' : mM, Inv M' → InvD M' → RXz M'.1 → WL p l e s m below meth c b A G cy ad ce sl Z 1731 [(3, vI i), (0, vR (94, 0, 0)), (1, vR (11, 0, 0)), (2, vR (12, 0, 0))] [] M') : WL p l e s m below meth c b A G cy ad ce sl Z 278 [(3, vI i), (0, vR (94, 0, 0)), (1, vR (11, 0, 0)), (2, vR (12, 0, 0))] [] M := by
  refine wl_aload_n X dL_law_278 rfl 2 rfl ?_
  refine wl_arg X 1 hi (by decide) (v := 1) (by decide) (ki := 1) (by decide) 1 0 rfl rfl dL_law_279 dL_law_280 dL_law_281 dL_law_282 dL_law_283 ?_
  refine wl_arg X 2 hi (by decide) (v := 2) (by decide) (ki := 2) (by decide) 1 0 rfl rfl dL_law_284 dL_law_285 dL_law_286 dL_law_287 dL_law_288 ?_
  refine wl_arg X 3 hi (by decide) (v := 3) (by decide) (ki := 3) (by decide) 1 0 rfl rfl dL_law_289 dL_law_290 dL_law_291 dL_law_292 dL_law_293 ?_
  refine wl_callC X (as := [vI (xs (i.toInt.toNat + 1)), vI (xs (i.toInt.toNat + 2)), vI (xs (i.toInt.toNat + 3))]) (rest := []) (c_X11_moves l G cy ad 0 (xs (i.toInt.toNat + 1)) (xs (i.toInt.toNat + 2)) (xs (i.toInt.toNat + 3)) M hI) kV_X11_moves pnn_0 (Nat.le_of_ble_eq_true rfl) m_535 rfl rfl rfl (by decide) (Nat.le_of_ble_eq_true rfl) (Nat.le_of_ble_eq_true rfl) dL_law_294 (fun r1_ M2_ q3_ => ?_)
  obtain ⟨hI1_, hF1_, -, hs1_⟩ := q3_
  have e1_ : mgC M2_ M = M2_ := mgC_self hF1_ SC_X11_moves
  rw [e1_]
  have hD1_ : InvD M2_ := e1_ ▸ mgC_D (M' := M2_) hD
  refine wl_pop X dL_law_297 ?_
  refine wl_aload_n X dL_law_298 rfl 3 rfl ?_
  refine wl_arg X 1 hi (by decide) (v := 1) (by decide) (ki := 1) (by decide) 1 0 rfl rfl dL_law_299 dL_law_300 dL_law_301 dL_law_302 dL_law_303 ?_
  refine wl_arg X 2 hi (by decide) (v := 2) (by decide) (ki := 2) (by decide) 1 0 rfl rfl dL_law_304 dL_law_305 dL_law_306 dL_law_307 dL_law_308 ?_
  refine wl_arg X 3 hi (by decide) (v := 3) (by decide) (ki := 3) (by decide) 1 0 rfl rfl dL_law_309 dL_law_310 dL_law_311 dL_law_312 dL_law_313 ?_
  refine wl_callD X (as := [vI (xs (i.toInt.toNat + 1)), vI (xs (i.toInt.toNat + 2)), vI (xs (i.toInt.toNat + 3))]) (rest := []) (c_X12_moves l G cy ad 0 (xs (i.toInt.toNat + 1)) (xs (i.toInt.toNat + 2)) (xs (i.toInt.toNat + 3)) M2_ hD1_) kV_X12_moves pnn_17 (Nat.le_of_ble_eq_true rfl) m_1469 rfl rfl rfl (by decide) (Nat.le_of_ble_eq_true rfl) (Nat.le_of_ble_eq_true rfl) dL_law_314 (fun r4_ M5_ q6_ => ?_)
  obtain ⟨hI2_, hF2_, -, hs2_⟩ := q6_
  have e2_ : (mgD M5_ M2_).1 = M5_.1 := mgD_self hF2_ SD_X12_moves
  have hI9_ : Inv (mgD M5_ M2_) := mgD_I hI1_
  have hD9_ : InvD (mgD M5_ M2_) := mgD_D hI2_
  have st_ := st_2 hR hD hF1_ hs1_ hF2_ hs2_
  refine wl_pop X dL_law_317 ?_
  refine wl_goto X (tgt := 1731) dL_law_318 (by decide) ?_
  exact hend _ hI9_ hD9_ (by rw [e2_]; exact st_.1)
set_option maxHeartbeats 4000000 in
set_option maxRecDepth 100000 in
theorem law_case_3 {p : Program} {l : Launch} {e : Env} {s : State} {m : MethodId} {below : List Frame} {meth : Method} {c : Code} {b L : Nat} {xs : Nat → Int32} {A : Nat → Prop} {G : va_G} {cy : Nat → ClassId} {ad : rf → Nat} {ce sl : Nat} {Z : State → Prop} (X : LX p s m c b L xs A G cy ad ce sl) {i : Int32} {M : mM} (hI : Inv M) (hD : InvD M) (hR : RXz M.1) (hi : 0 ≤ i.toInt ∧ i.toInt + 6 ≤ (L : Int)) (hend : ∀ M' : mM, Inv M' → InvD M' → RXz M'.1 → WL p l e s m below meth c b A G cy ad ce sl Z 1731 [(3, vI i), (0, vR (94, 0, 0)), (1, vR (11, 0, 0)), (2, vR (12, 0, 0))] [] M') : WL p l e s m below meth c b A G cy ad ce sl Z 321 [(3, vI i), (0, vR (94, 0, 0)), (1, vR (11, 0, 0)), (2, vR (12, 0, 0))] [] M := by
  refine wl_aload_n X dL_law_321 rfl 2 rfl ?_
  refine wl_arg X 1 hi (by decide) (v := 1) (by decide) (ki := 1) (by decide) 1 0 rfl rfl dL_law_322 dL_law_323 dL_law_324 dL_law_325 dL_law_326 ?_
  refine wl_callC X (as := [vI (xs (i.toInt.toNat + 1))]) (rest := []) (c_X11_away l G cy ad 0 (xs (i.toInt.toNat + 1)) M hI) kV_X11_away pnn_0 (Nat.le_of_ble_eq_true rfl) m_542 rfl rfl rfl (by decide) (Nat.le_of_ble_eq_true rfl) (Nat.le_of_ble_eq_true rfl) dL_law_327 (fun r1_ M2_ q3_ => ?_)
  obtain ⟨hI1_, hF1_, -, hs1_⟩ := q3_
  have e1_ : mgC M2_ M = M2_ := mgC_self hF1_ SC_X11_away
  rw [e1_]
  have hD1_ : InvD M2_ := e1_ ▸ mgC_D (M' := M2_) hD
  refine wl_pop X dL_law_330 ?_
  refine wl_aload_n X dL_law_331 rfl 3 rfl ?_
  refine wl_arg X 1 hi (by decide) (v := 1) (by decide) (ki := 1) (by decide) 1 0 rfl rfl dL_law_332 dL_law_333 dL_law_334 dL_law_335 dL_law_336 ?_
  refine wl_callD X (as := [vI (xs (i.toInt.toNat + 1))]) (rest := []) (c_X12_away l G cy ad 0 (xs (i.toInt.toNat + 1)) M2_ hD1_) kV_X12_away pnn_17 (Nat.le_of_ble_eq_true rfl) m_1477 rfl rfl rfl (by decide) (Nat.le_of_ble_eq_true rfl) (Nat.le_of_ble_eq_true rfl) dL_law_337 (fun r4_ M5_ q6_ => ?_)
  obtain ⟨hI2_, hF2_, -, hs2_⟩ := q6_
  have e2_ : (mgD M5_ M2_).1 = M5_.1 := mgD_self hF2_ SD_X12_away
  have hI9_ : Inv (mgD M5_ M2_) := mgD_I hI1_
  have hD9_ : InvD (mgD M5_ M2_) := mgD_D hI2_
  have st_ := st_3 hR hD hF1_ hs1_ hF2_ hs2_
  refine wl_pop X dL_law_340 ?_
  refine wl_goto X (tgt := 1731) dL_law_341 (by decide) ?_
  exact hend _ hI9_ hD9_ (by rw [e2_]; exact st_.1)
set_option maxHeartbeats 4000000 in
set_option maxRecDepth 100000 in
theorem law_case_4 {p : Program} {l : Launch} {e : Env} {s : State} {m : MethodId} {below : List Frame} {meth : Method} {c : Code} {b L : Nat} {xs : Nat → Int32} {A : Nat → Prop} {G : va_G} {cy : Nat → ClassId} {ad : rf → Nat} {ce sl : Nat} {Z : State → Prop} (X : LX p s m c b L xs A G cy ad ce sl) {i : Int32} {M : mM} (hI : Inv M) (hD : InvD M) (hR : RXz M.1) (hi : 0 ≤ i.toInt ∧ i.toInt + 6 ≤ (L : Int)) (hend : ∀ M' : mM, Inv M' → InvD M' → RXz M'.1 → WL p l e s m below meth c b A G cy ad ce sl Z 1731 [(3, vI i), (0, vR (94, 0, 0)), (1, vR (11, 0, 0)), (2, vR (12, 0, 0))] [] M') : WL p l e s m below meth c b A G cy ad ce sl Z 344 [(3, vI i), (0, vR (94, 0, 0)), (1, vR (11, 0, 0)), (2, vR (12, 0, 0))] [] M := by
  refine wl_aload_n X dL_law_344 rfl 2 rfl ?_
  refine wl_arg X 1 hi (by decide) (v := 1) (by decide) (ki := 1) (by decide) 1 0 rfl rfl dL_law_345 dL_law_346 dL_law_347 dL_law_348 dL_law_349 ?_
  refine wl_arg X 2 hi (by decide) (v := 2) (by decide) (ki := 2) (by decide) 1 0 rfl rfl dL_law_350 dL_law_351 dL_law_352 dL_law_353 dL_law_354 ?_
  refine wl_arg X 3 hi (by decide) (v := 3) (by decide) (ki := 3) (by decide) 1 0 rfl rfl dL_law_355 dL_law_356 dL_law_357 dL_law_358 dL_law_359 ?_
  refine wl_callC X (as := [vI (xs (i.toInt.toNat + 1)), vI (xs (i.toInt.toNat + 2)), vI (xs (i.toInt.toNat + 3))]) (rest := []) (c_X11_kind l G cy ad 0 (xs (i.toInt.toNat + 1)) (xs (i.toInt.toNat + 2)) (xs (i.toInt.toNat + 3)) M hI) kV_X11_kind pnn_0 (Nat.le_of_ble_eq_true rfl) m_550 rfl rfl rfl (by decide) (Nat.le_of_ble_eq_true rfl) (Nat.le_of_ble_eq_true rfl) dL_law_360 (fun r1_ M2_ q3_ => ?_)
  obtain ⟨hI1_, hF1_, -, hs1_⟩ := q3_
  have e1_ : mgC M2_ M = M2_ := mgC_self hF1_ SC_X11_kind
  rw [e1_]
  have hD1_ : InvD M2_ := e1_ ▸ mgC_D (M' := M2_) hD
  refine wl_pop X dL_law_363 ?_
  refine wl_aload_n X dL_law_364 rfl 3 rfl ?_
  refine wl_arg X 1 hi (by decide) (v := 1) (by decide) (ki := 1) (by decide) 1 0 rfl rfl dL_law_365 dL_law_366 dL_law_367 dL_law_368 dL_law_369 ?_
  refine wl_arg X 2 hi (by decide) (v := 2) (by decide) (ki := 2) (by decide) 1 0 rfl rfl dL_law_370 dL_law_371 dL_law_372 dL_law_373 dL_law_374 ?_
  refine wl_arg X 3 hi (by decide) (v := 3) (by decide) (ki := 3) (by decide) 1 0 rfl rfl dL_law_375 dL_law_376 dL_law_377 dL_law_378 dL_law_379 ?_
  refine wl_callD X (as := [vI (xs (i.toInt.toNat + 1)), vI (xs (i.toInt.toNat + 2)), vI (xs (i.toInt.toNat + 3))]) (rest := []) (c_X12_kind l G cy ad 0 (xs (i.toInt.toNat + 1)) (xs (i.toInt.toNat + 2)) (xs (i.toInt.toNat + 3)) M2_ hD1_) kV_X12_kind pnn_17 (Nat.le_of_ble_eq_true rfl) m_1485 rfl rfl rfl (by decide) (Nat.le_of_ble_eq_true rfl) (Nat.le_of_ble_eq_true rfl) dL_law_380 (fun r4_ M5_ q6_ => ?_)
  obtain ⟨hI2_, hF2_, -, hs2_⟩ := q6_
  have e2_ : (mgD M5_ M2_).1 = M5_.1 := mgD_self hF2_ SD_X12_kind
  have hI9_ : Inv (mgD M5_ M2_) := mgD_I hI1_
  have hD9_ : InvD (mgD M5_ M2_) := mgD_D hI2_
  have st_ := st_4 hR hD hF1_ hs1_ hF2_ hs2_
  refine wl_pop X dL_law_383 ?_
  refine wl_goto X (tgt := 1731) dL_law_384 (by decide) ?_
  exact hend _ hI9_ hD9_ (by rw [e2_]; exact st_.1)
set_option maxHeartbeats 4000000 in
set_option maxRecDepth 100000 in
theorem law_case_5 {p : Program} {l : Launch} {e : Env} {s : State} {m : MethodId} {below : List Frame} {meth : Method} {c : Code} {b L : Nat} {xs : Nat → Int32} {A : Nat → Prop} {G : va_G} {cy : Nat → ClassId} {ad : rf → Nat} {ce sl : Nat} {Z : State → Prop} (X : LX p s m c b L xs A G cy ad ce sl) {i : Int32} {M : mM} (hI : Inv M) (hD : InvD M) (hR : RXz M.1) (hi : 0 ≤ i.toInt ∧ i.toInt + 6 ≤ (L : Int)) (hend : ∀ M' : mM, Inv M' → InvD M' → RXz M'.1 → WL p l e s m below meth c b A G cy ad ce sl Z 1731 [(3, vI i), (0, vR (94, 0, 0)), (1, vR (11, 0, 0)), (2, vR (12, 0, 0))] [] M') : WL p l e s m below meth c b A G cy ad ce sl Z 387 [(3, vI i), (0, vR (94, 0, 0)), (1, vR (11, 0, 0)), (2, vR (12, 0, 0))] [] M := by
  refine wl_aload_n X dL_law_387 rfl 2 rfl ?_
  refine wl_arg X 1 hi (by decide) (v := 1) (by decide) (ki := 1) (by decide) 1 0 rfl rfl dL_law_388 dL_law_389 dL_law_390 dL_law_391 dL_law_392 ?_
  refine wl_callC X (as := [vI (xs (i.toInt.toNat + 1))]) (rest := []) (c_X11_at l G cy ad 0 (xs (i.toInt.toNat + 1)) M hI) kV_X11_at pnn_0 (Nat.le_of_ble_eq_true rfl) m_558 rfl rfl rfl (by decide) (Nat.le_of_ble_eq_true rfl) (Nat.le_of_ble_eq_true rfl) dL_law_393 (fun r1_ M2_ q3_ => ?_)
  obtain ⟨hI1_, hF1_, -, hs1_⟩ := q3_
  have e1_ : mgC M2_ M = M2_ := mgC_self hF1_ SC_X11_at
  rw [e1_]
  have hD1_ : InvD M2_ := e1_ ▸ mgC_D (M' := M2_) hD
  refine wl_pop X dL_law_396 ?_
  refine wl_aload_n X dL_law_397 rfl 3 rfl ?_
  refine wl_arg X 1 hi (by decide) (v := 1) (by decide) (ki := 1) (by decide) 1 0 rfl rfl dL_law_398 dL_law_399 dL_law_400 dL_law_401 dL_law_402 ?_
  refine wl_callD X (as := [vI (xs (i.toInt.toNat + 1))]) (rest := []) (c_X12_at l G cy ad 0 (xs (i.toInt.toNat + 1)) M2_ hD1_) kV_X12_at pnn_17 (Nat.le_of_ble_eq_true rfl) m_1489 rfl rfl rfl (by decide) (Nat.le_of_ble_eq_true rfl) (Nat.le_of_ble_eq_true rfl) dL_law_403 (fun r4_ M5_ q6_ => ?_)
  obtain ⟨hI2_, hF2_, -, hs2_⟩ := q6_
  have e2_ : (mgD M5_ M2_).1 = M5_.1 := mgD_self hF2_ SD_X12_at
  have hI9_ : Inv (mgD M5_ M2_) := mgD_I hI1_
  have hD9_ : InvD (mgD M5_ M2_) := mgD_D hI2_
  have st_ := st_5 hR hD hF1_ hs1_ hF2_ hs2_
  refine wl_pop X dL_law_406 ?_
  refine wl_goto X (tgt := 1731) dL_law_407 (by decide) ?_
  exact hend _ hI9_ hD9_ (by rw [e2_]; exact st_.1)
set_option maxHeartbeats 4000000 in
set_option maxRecDepth 100000 in
theorem law_case_6 {p : Program} {l : Launch} {e : Env} {s : State} {m : MethodId} {below : List Frame} {meth : Method} {c : Code} {b L : Nat} {xs : Nat → Int32} {A : Nat → Prop} {G : va_G} {cy : Nat → ClassId} {ad : rf → Nat} {ce sl : Nat} {Z : State → Prop} (X : LX p s m c b L xs A G cy ad ce sl) {i : Int32} {M : mM} (hI : Inv M) (hD : InvD M) (hR : RXz M.1) (hi : 0 ≤ i.toInt ∧ i.toInt + 6 ≤ (L : Int)) (hend : ∀ M' : mM, Inv M' → InvD M' → RXz M'.1 → WL p l e s m below meth c b A G cy ad ce sl Z 1731 [(3, vI i), (0, vR (94, 0, 0)), (1, vR (11, 0, 0)), (2, vR (12, 0, 0))] [] M') : WL p l e s m below meth c b A G cy ad ce sl Z 410 [(3, vI i), (0, vR (94, 0, 0)), (1, vR (11, 0, 0)), (2, vR (12, 0, 0))] [] M := by
  refine wl_aload_n X dL_law_410 rfl 2 rfl ?_
  refine wl_arg X 1 hi (by decide) (v := 1) (by decide) (ki := 1) (by decide) 1 0 rfl rfl dL_law_411 dL_law_412 dL_law_413 dL_law_414 dL_law_415 ?_
  refine wl_arg X 2 hi (by decide) (v := 2) (by decide) (ki := 2) (by decide) 1 0 rfl rfl dL_law_416 dL_law_417 dL_law_418 dL_law_419 dL_law_420 ?_
  refine wl_callC X (as := [vI (xs (i.toInt.toNat + 1)), vI (xs (i.toInt.toNat + 2))]) (rest := []) (c_X11_lays l G cy ad 0 (xs (i.toInt.toNat + 1)) (xs (i.toInt.toNat + 2)) M hI) kV_X11_lays pnn_0 (Nat.le_of_ble_eq_true rfl) m_562 rfl rfl rfl (by decide) (Nat.le_of_ble_eq_true rfl) (Nat.le_of_ble_eq_true rfl) dL_law_421 (fun r1_ M2_ q3_ => ?_)
  obtain ⟨hI1_, hF1_, -, hs1_⟩ := q3_
  have e1_ : mgC M2_ M = M2_ := mgC_self hF1_ SC_X11_lays
  rw [e1_]
  have hD1_ : InvD M2_ := e1_ ▸ mgC_D (M' := M2_) hD
  refine wl_pop X dL_law_424 ?_
  refine wl_aload_n X dL_law_425 rfl 3 rfl ?_
  refine wl_arg X 1 hi (by decide) (v := 1) (by decide) (ki := 1) (by decide) 1 0 rfl rfl dL_law_426 dL_law_427 dL_law_428 dL_law_429 dL_law_430 ?_
  refine wl_arg X 2 hi (by decide) (v := 2) (by decide) (ki := 2) (by decide) 1 0 rfl rfl dL_law_431 dL_law_432 dL_law_433 dL_law_434 dL_law_435 ?_
  refine wl_callD X (as := [vI (xs (i.toInt.toNat + 1)), vI (xs (i.toInt.toNat + 2))]) (rest := []) (c_X12_lays l G cy ad 0 (xs (i.toInt.toNat + 1)) (xs (i.toInt.toNat + 2)) M2_ hD1_) kV_X12_lays pnn_17 (Nat.le_of_ble_eq_true rfl) m_1493 rfl rfl rfl (by decide) (Nat.le_of_ble_eq_true rfl) (Nat.le_of_ble_eq_true rfl) dL_law_436 (fun r4_ M5_ q6_ => ?_)
  obtain ⟨hI2_, hF2_, -, hs2_⟩ := q6_
  have e2_ : (mgD M5_ M2_).1 = M5_.1 := mgD_self hF2_ SD_X12_lays
  have hI9_ : Inv (mgD M5_ M2_) := mgD_I hI1_
  have hD9_ : InvD (mgD M5_ M2_) := mgD_D hI2_
  have st_ := st_6 hR hD hF1_ hs1_ hF2_ hs2_
  refine wl_pop X dL_law_439 ?_
  refine wl_goto X (tgt := 1731) dL_law_440 (by decide) ?_
  exact hend _ hI9_ hD9_ (by rw [e2_]; exact st_.1)
set_option maxHeartbeats 4000000 in
set_option maxRecDepth 100000 in
theorem law_case_7 {p : Program} {l : Launch} {e : Env} {s : State} {m : MethodId} {below : List Frame} {meth : Method} {c : Code} {b L : Nat} {xs : Nat → Int32} {A : Nat → Prop} {G : va_G} {cy : Nat → ClassId} {ad : rf → Nat} {ce sl : Nat} {Z : State → Prop} (X : LX p s m c b L xs A G cy ad ce sl) {i : Int32} {M : mM} (hI : Inv M) (hD : InvD M) (hR : RXz M.1) (hi : 0 ≤ i.toInt ∧ i.toInt + 6 ≤ (L : Int)) (hend : ∀ M' : mM, Inv M' → InvD M' → RXz M'.1 → WL p l e s m below meth c b A G cy ad ce sl Z 1731 [(3, vI i), (0, vR (94, 0, 0)), (1, vR (11, 0, 0)), (2, vR (12, 0, 0))] [] M') : WL p l e s m below meth c b A G cy ad ce sl Z 443 [(3, vI i), (0, vR (94, 0, 0)), (1, vR (11, 0, 0)), (2, vR (12, 0, 0))] [] M := by
  refine wl_aload_n X dL_law_443 rfl 2 rfl ?_
  refine wl_arg X 1 hi (by decide) (v := 1) (by decide) (ki := 1) (by decide) 1 0 rfl rfl dL_law_444 dL_law_445 dL_law_446 dL_law_447 dL_law_448 ?_
  refine wl_arg X 2 hi (by decide) (v := 2) (by decide) (ki := 2) (by decide) 1 0 rfl rfl dL_law_449 dL_law_450 dL_law_451 dL_law_452 dL_law_453 ?_
  refine wl_callC X (as := [vI (xs (i.toInt.toNat + 1)), vI (xs (i.toInt.toNat + 2))]) (rest := []) (c_X11_air l G cy ad 0 (xs (i.toInt.toNat + 1)) (xs (i.toInt.toNat + 2)) M hI) kV_X11_air pnn_0 (Nat.le_of_ble_eq_true rfl) m_581 rfl rfl rfl (by decide) (Nat.le_of_ble_eq_true rfl) (Nat.le_of_ble_eq_true rfl) dL_law_454 (fun r1_ M2_ q3_ => ?_)
  obtain ⟨hI1_, hF1_, -, hs1_⟩ := q3_
  have e1_ : mgC M2_ M = M2_ := mgC_self hF1_ SC_X11_air
  rw [e1_]
  have hD1_ : InvD M2_ := e1_ ▸ mgC_D (M' := M2_) hD
  refine wl_pop X dL_law_457 ?_
  refine wl_aload_n X dL_law_458 rfl 3 rfl ?_
  refine wl_arg X 1 hi (by decide) (v := 1) (by decide) (ki := 1) (by decide) 1 0 rfl rfl dL_law_459 dL_law_460 dL_law_461 dL_law_462 dL_law_463 ?_
  refine wl_arg X 2 hi (by decide) (v := 2) (by decide) (ki := 2) (by decide) 1 0 rfl rfl dL_law_464 dL_law_465 dL_law_466 dL_law_467 dL_law_468 ?_
  refine wl_callD X (as := [vI (xs (i.toInt.toNat + 1)), vI (xs (i.toInt.toNat + 2))]) (rest := []) (c_X12_air l G cy ad 0 (xs (i.toInt.toNat + 1)) (xs (i.toInt.toNat + 2)) M2_ hD1_) kV_X12_air pnn_17 (Nat.le_of_ble_eq_true rfl) m_1501 rfl rfl rfl (by decide) (Nat.le_of_ble_eq_true rfl) (Nat.le_of_ble_eq_true rfl) dL_law_469 (fun r4_ M5_ q6_ => ?_)
  obtain ⟨hI2_, hF2_, -, hs2_⟩ := q6_
  have e2_ : (mgD M5_ M2_).1 = M5_.1 := mgD_self hF2_ SD_X12_air
  have hI9_ : Inv (mgD M5_ M2_) := mgD_I hI1_
  have hD9_ : InvD (mgD M5_ M2_) := mgD_D hI2_
  have st_ := st_7 hR hD hF1_ hs1_ hF2_ hs2_
  refine wl_pop X dL_law_472 ?_
  refine wl_goto X (tgt := 1731) dL_law_473 (by decide) ?_
  exact hend _ hI9_ hD9_ (by rw [e2_]; exact st_.1)
set_option maxHeartbeats 4000000 in
set_option maxRecDepth 100000 in
theorem law_case_8 {p : Program} {l : Launch} {e : Env} {s : State} {m : MethodId} {below : List Frame} {meth : Method} {c : Code} {b L : Nat} {xs : Nat → Int32} {A : Nat → Prop} {G : va_G} {cy : Nat → ClassId} {ad : rf → Nat} {ce sl : Nat} {Z : State → Prop} (X : LX p s m c b L xs A G cy ad ce sl) {i : Int32} {M : mM} (hI : Inv M) (hD : InvD M) (hR : RXz M.1) (hi : 0 ≤ i.toInt ∧ i.toInt + 6 ≤ (L : Int)) (hend : ∀ M' : mM, Inv M' → InvD M' → RXz M'.1 → WL p l e s m below meth c b A G cy ad ce sl Z 1731 [(3, vI i), (0, vR (94, 0, 0)), (1, vR (11, 0, 0)), (2, vR (12, 0, 0))] [] M') : WL p l e s m below meth c b A G cy ad ce sl Z 476 [(3, vI i), (0, vR (94, 0, 0)), (1, vR (11, 0, 0)), (2, vR (12, 0, 0))] [] M := by
  refine wl_aload_n X dL_law_476 rfl 2 rfl ?_
  refine wl_arg X 1 hi (by decide) (v := 1) (by decide) (ki := 1) (by decide) 1 0 rfl rfl dL_law_477 dL_law_478 dL_law_479 dL_law_480 dL_law_481 ?_
  refine wl_arg X 2 hi (by decide) (v := 2) (by decide) (ki := 2) (by decide) 1 0 rfl rfl dL_law_482 dL_law_483 dL_law_484 dL_law_485 dL_law_486 ?_
  refine wl_arg X 3 hi (by decide) (v := 3) (by decide) (ki := 3) (by decide) 1 0 rfl rfl dL_law_487 dL_law_488 dL_law_489 dL_law_490 dL_law_491 ?_
  refine wl_callC X (as := [vI (xs (i.toInt.toNat + 1)), vI (xs (i.toInt.toNat + 2)), vI (xs (i.toInt.toNat + 3))]) (rest := []) (c_X11_walker l G cy ad 0 (xs (i.toInt.toNat + 1)) (xs (i.toInt.toNat + 2)) (xs (i.toInt.toNat + 3)) M hI) kV_X11_walker pnn_0 (Nat.le_of_ble_eq_true rfl) m_589 rfl rfl rfl (by decide) (Nat.le_of_ble_eq_true rfl) (Nat.le_of_ble_eq_true rfl) dL_law_492 (fun r1_ M2_ q3_ => ?_)
  obtain ⟨hI1_, hF1_, -, hs1_⟩ := q3_
  have e1_ : mgC M2_ M = M2_ := mgC_self hF1_ SC_X11_walker
  rw [e1_]
  have hD1_ : InvD M2_ := e1_ ▸ mgC_D (M' := M2_) hD
  refine wl_pop X dL_law_495 ?_
  refine wl_aload_n X dL_law_496 rfl 3 rfl ?_
  refine wl_arg X 1 hi (by decide) (v := 1) (by decide) (ki := 1) (by decide) 1 0 rfl rfl dL_law_497 dL_law_498 dL_law_499 dL_law_500 dL_law_501 ?_
  refine wl_arg X 2 hi (by decide) (v := 2) (by decide) (ki := 2) (by decide) 1 0 rfl rfl dL_law_502 dL_law_503 dL_law_504 dL_law_505 dL_law_506 ?_
  refine wl_arg X 3 hi (by decide) (v := 3) (by decide) (ki := 3) (by decide) 1 0 rfl rfl dL_law_507 dL_law_508 dL_law_509 dL_law_510 dL_law_511 ?_
  refine wl_callD X (as := [vI (xs (i.toInt.toNat + 1)), vI (xs (i.toInt.toNat + 2)), vI (xs (i.toInt.toNat + 3))]) (rest := []) (c_X12_walker l G cy ad 0 (xs (i.toInt.toNat + 1)) (xs (i.toInt.toNat + 2)) (xs (i.toInt.toNat + 3)) M2_ hD1_) kV_X12_walker pnn_17 (Nat.le_of_ble_eq_true rfl) m_1505 rfl rfl rfl (by decide) (Nat.le_of_ble_eq_true rfl) (Nat.le_of_ble_eq_true rfl) dL_law_512 (fun r4_ M5_ q6_ => ?_)
  obtain ⟨hI2_, hF2_, -, hs2_⟩ := q6_
  have e2_ : (mgD M5_ M2_).1 = M5_.1 := mgD_self hF2_ SD_X12_walker
  have hI9_ : Inv (mgD M5_ M2_) := mgD_I hI1_
  have hD9_ : InvD (mgD M5_ M2_) := mgD_D hI2_
  have st_ := st_8 hR hD hF1_ hs1_ hF2_ hs2_
  refine wl_pop X dL_law_515 ?_
  refine wl_goto X (tgt := 1731) dL_law_516 (by decide) ?_
  exact hend _ hI9_ hD9_ (by rw [e2_]; exact st_.1)
set_option maxHeartbeats 4000000 in
set_option maxRecDepth 100000 in
theorem law_case_9 {p : Program} {l : Launch} {e : Env} {s : State} {m : MethodId} {below : List Frame} {meth : Method} {c : Code} {b L : Nat} {xs : Nat → Int32} {A : Nat → Prop} {G : va_G} {cy : Nat → ClassId} {ad : rf → Nat} {ce sl : Nat} {Z : State → Prop} (X : LX p s m c b L xs A G cy ad ce sl) {i : Int32} {M : mM} (hI : Inv M) (hD : InvD M) (hR : RXz M.1) (hi : 0 ≤ i.toInt ∧ i.toInt + 6 ≤ (L : Int)) (hend : ∀ M' : mM, Inv M' → InvD M' → RXz M'.1 → WL p l e s m below meth c b A G cy ad ce sl Z 1731 [(3, vI i), (0, vR (94, 0, 0)), (1, vR (11, 0, 0)), (2, vR (12, 0, 0))] [] M') : WL p l e s m below meth c b A G cy ad ce sl Z 519 [(3, vI i), (0, vR (94, 0, 0)), (1, vR (11, 0, 0)), (2, vR (12, 0, 0))] [] M := by
  refine wl_aload_n X dL_law_519 rfl 2 rfl ?_
  refine wl_arg X 1 hi (by decide) (v := 1) (by decide) (ki := 1) (by decide) 1 0 rfl rfl dL_law_520 dL_law_521 dL_law_522 dL_law_523 dL_law_524 ?_
  refine wl_arg X 2 hi (by decide) (v := 2) (by decide) (ki := 2) (by decide) 1 0 rfl rfl dL_law_525 dL_law_526 dL_law_527 dL_law_528 dL_law_529 ?_
  refine wl_callC X (as := [vI (xs (i.toInt.toNat + 1)), vI (xs (i.toInt.toNat + 2))]) (rest := []) (c_X11_walkerIs l G cy ad 0 (xs (i.toInt.toNat + 1)) (xs (i.toInt.toNat + 2)) M hI) kV_X11_walkerIs pnn_0 (Nat.le_of_ble_eq_true rfl) m_605 rfl rfl rfl (by decide) (Nat.le_of_ble_eq_true rfl) (Nat.le_of_ble_eq_true rfl) dL_law_530 (fun r1_ M2_ q3_ => ?_)
  obtain ⟨hI1_, hF1_, -, hs1_⟩ := q3_
  have e1_ : mgC M2_ M = M2_ := mgC_self hF1_ SC_X11_walkerIs
  rw [e1_]
  have hD1_ : InvD M2_ := e1_ ▸ mgC_D (M' := M2_) hD
  refine wl_pop X dL_law_533 ?_
  refine wl_aload_n X dL_law_534 rfl 3 rfl ?_
  refine wl_arg X 1 hi (by decide) (v := 1) (by decide) (ki := 1) (by decide) 1 0 rfl rfl dL_law_535 dL_law_536 dL_law_537 dL_law_538 dL_law_539 ?_
  refine wl_arg X 2 hi (by decide) (v := 2) (by decide) (ki := 2) (by decide) 1 0 rfl rfl dL_law_540 dL_law_541 dL_law_542 dL_law_543 dL_law_544 ?_
  refine wl_callD X (as := [vI (xs (i.toInt.toNat + 1)), vI (xs (i.toInt.toNat + 2))]) (rest := []) (c_X12_walkerIs l G cy ad 0 (xs (i.toInt.toNat + 1)) (xs (i.toInt.toNat + 2)) M2_ hD1_) kV_X12_walkerIs pnn_17 (Nat.le_of_ble_eq_true rfl) m_1509 rfl rfl rfl (by decide) (Nat.le_of_ble_eq_true rfl) (Nat.le_of_ble_eq_true rfl) dL_law_545 (fun r4_ M5_ q6_ => ?_)
  obtain ⟨hI2_, hF2_, -, hs2_⟩ := q6_
  have e2_ : (mgD M5_ M2_).1 = M5_.1 := mgD_self hF2_ SD_X12_walkerIs
  have hI9_ : Inv (mgD M5_ M2_) := mgD_I hI1_
  have hD9_ : InvD (mgD M5_ M2_) := mgD_D hI2_
  have st_ := st_9 hR hD hF1_ hs1_ hF2_ hs2_
  refine wl_pop X dL_law_548 ?_
  refine wl_goto X (tgt := 1731) dL_law_549 (by decide) ?_
  exact hend _ hI9_ hD9_ (by rw [e2_]; exact st_.1)
set_option maxHeartbeats 4000000 in
set_option maxRecDepth 100000 in
theorem law_case_10 {p : Program} {l : Launch} {e : Env} {s : State} {m : MethodId} {below : List Frame} {meth : Method} {c : Code} {b L : Nat} {xs : Nat → Int32} {A : Nat → Prop} {G : va_G} {cy : Nat → ClassId} {ad : rf → Nat} {ce sl : Nat} {Z : State → Prop} (X : LX p s m c b L xs A G cy ad ce sl) {i : Int32} {M : mM} (hI : Inv M) (hD : InvD M) (hR : RXz M.1) (hi : 0 ≤ i.toInt ∧ i.toInt + 6 ≤ (L : Int)) (hend : ∀ M' : mM, Inv M' → InvD M' → RXz M'.1 → WL p l e s m below meth c b A G cy ad ce sl Z 1731 [(3, vI i), (0, vR (94, 0, 0)), (1, vR (11, 0, 0)), (2, vR (12, 0, 0))] [] M') : WL p l e s m below meth c b A G cy ad ce sl Z 552 [(3, vI i), (0, vR (94, 0, 0)), (1, vR (11, 0, 0)), (2, vR (12, 0, 0))] [] M := by
  refine wl_aload_n X dL_law_552 rfl 2 rfl ?_
  refine wl_arg X 1 hi (by decide) (v := 1) (by decide) (ki := 1) (by decide) 1 0 rfl rfl dL_law_553 dL_law_554 dL_law_555 dL_law_556 dL_law_557 ?_
  refine wl_arg X 2 hi (by decide) (v := 2) (by decide) (ki := 2) (by decide) 1 0 rfl rfl dL_law_558 dL_law_559 dL_law_560 dL_law_561 dL_law_562 ?_
  refine wl_callC X (as := [vI (xs (i.toInt.toNat + 1)), vI (xs (i.toInt.toNat + 2))]) (rest := []) (c_X11_as l G cy ad 0 (xs (i.toInt.toNat + 1)) (xs (i.toInt.toNat + 2)) M hI) kV_X11_as pnn_0 (Nat.le_of_ble_eq_true rfl) m_635 rfl rfl rfl (by decide) (Nat.le_of_ble_eq_true rfl) (Nat.le_of_ble_eq_true rfl) dL_law_563 (fun r1_ M2_ q3_ => ?_)
  obtain ⟨hI1_, hF1_, -, hs1_⟩ := q3_
  have e1_ : mgC M2_ M = M2_ := mgC_self hF1_ SC_X11_as
  rw [e1_]
  have hD1_ : InvD M2_ := e1_ ▸ mgC_D (M' := M2_) hD
  refine wl_pop X dL_law_566 ?_
  refine wl_aload_n X dL_law_567 rfl 3 rfl ?_
  refine wl_arg X 1 hi (by decide) (v := 1) (by decide) (ki := 1) (by decide) 1 0 rfl rfl dL_law_568 dL_law_569 dL_law_570 dL_law_571 dL_law_572 ?_
  refine wl_arg X 2 hi (by decide) (v := 2) (by decide) (ki := 2) (by decide) 1 0 rfl rfl dL_law_573 dL_law_574 dL_law_575 dL_law_576 dL_law_577 ?_
  refine wl_callD X (as := [vI (xs (i.toInt.toNat + 1)), vI (xs (i.toInt.toNat + 2))]) (rest := []) (c_X12_as l G cy ad 0 (xs (i.toInt.toNat + 1)) (xs (i.toInt.toNat + 2)) M2_ hD1_) kV_X12_as pnn_17 (Nat.le_of_ble_eq_true rfl) m_1528 rfl rfl rfl (by decide) (Nat.le_of_ble_eq_true rfl) (Nat.le_of_ble_eq_true rfl) dL_law_578 (fun r4_ M5_ q6_ => ?_)
  obtain ⟨hI2_, hF2_, -, hs2_⟩ := q6_
  have e2_ : (mgD M5_ M2_).1 = M5_.1 := mgD_self hF2_ SD_X12_as
  have hI9_ : Inv (mgD M5_ M2_) := mgD_I hI1_
  have hD9_ : InvD (mgD M5_ M2_) := mgD_D hI2_
  have st_ := st_10 hR hD hF1_ hs1_ hF2_ hs2_
  refine wl_pop X dL_law_581 ?_
  refine wl_goto X (tgt := 1731) dL_law_582 (by decide) ?_
  exact hend _ hI9_ hD9_ (by rw [e2_]; exact st_.1)
set_option maxHeartbeats 4000000 in
set_option maxRecDepth 100000 in
theorem law_case_11 {p : Program} {l : Launch} {e : Env} {s : State} {m : MethodId} {below : List Frame} {meth : Method} {c : Code} {b L : Nat} {xs : Nat → Int32} {A : Nat → Prop} {G : va_G} {cy : Nat → ClassId} {ad : rf → Nat} {ce sl : Nat} {Z : State → Prop} (X : LX p s m c b L xs A G cy ad ce sl) {i : Int32} {M : mM} (hI : Inv M) (hD : InvD M) (hR : RXz M.1) (hi : 0 ≤ i.toInt ∧ i.toInt + 6 ≤ (L : Int)) (hend : ∀ M' : mM, Inv M' → InvD M' → RXz M'.1 → WL p l e s m below meth c b A G cy ad ce sl Z 1731 [(3, vI i), (0, vR (94, 0, 0)), (1, vR (11, 0, 0)), (2, vR (12, 0, 0))] [] M') : WL p l e s m below meth c b A G cy ad ce sl Z 585 [(3, vI i), (0, vR (94, 0, 0)), (1, vR (11, 0, 0)), (2, vR (12, 0, 0))] [] M := by
  refine wl_aload_n X dL_law_585 rfl 2 rfl ?_
  refine wl_arg X 1 hi (by decide) (v := 1) (by decide) (ki := 1) (by decide) 1 0 rfl rfl dL_law_586 dL_law_587 dL_law_588 dL_law_589 dL_law_590 ?_
  refine wl_arg X 2 hi (by decide) (v := 2) (by decide) (ki := 2) (by decide) 1 0 rfl rfl dL_law_591 dL_law_592 dL_law_593 dL_law_594 dL_law_595 ?_
  refine wl_arg X 3 hi (by decide) (v := 3) (by decide) (ki := 3) (by decide) 1 0 rfl rfl dL_law_596 dL_law_597 dL_law_598 dL_law_599 dL_law_600 ?_
  refine wl_arg X 4 hi (by decide) (v := 4) (by decide) (ki := 4) (by decide) 1 0 rfl rfl dL_law_601 dL_law_602 dL_law_603 dL_law_604 dL_law_605 ?_
  refine wl_callC X (as := [vI (xs (i.toInt.toNat + 1)), vI (xs (i.toInt.toNat + 2)), vI (xs (i.toInt.toNat + 3)), vI (xs (i.toInt.toNat + 4))]) (rest := []) (c_X11_habit l G cy ad 0 (xs (i.toInt.toNat + 1)) (xs (i.toInt.toNat + 2)) (xs (i.toInt.toNat + 3)) (xs (i.toInt.toNat + 4)) M hI) kV_X11_habit pnn_0 (Nat.le_of_ble_eq_true rfl) m_649 rfl rfl rfl (by decide) (Nat.le_of_ble_eq_true rfl) (Nat.le_of_ble_eq_true rfl) dL_law_606 (fun r1_ M2_ q3_ => ?_)
  obtain ⟨hI1_, hF1_, -, hs1_⟩ := q3_
  have e1_ : mgC M2_ M = M2_ := mgC_self hF1_ SC_X11_habit
  rw [e1_]
  have hD1_ : InvD M2_ := e1_ ▸ mgC_D (M' := M2_) hD
  refine wl_pop X dL_law_609 ?_
  refine wl_aload_n X dL_law_610 rfl 3 rfl ?_
  refine wl_arg X 1 hi (by decide) (v := 1) (by decide) (ki := 1) (by decide) 1 0 rfl rfl dL_law_611 dL_law_612 dL_law_613 dL_law_614 dL_law_615 ?_
  refine wl_arg X 2 hi (by decide) (v := 2) (by decide) (ki := 2) (by decide) 1 0 rfl rfl dL_law_616 dL_law_617 dL_law_618 dL_law_619 dL_law_620 ?_
  refine wl_arg X 3 hi (by decide) (v := 3) (by decide) (ki := 3) (by decide) 1 0 rfl rfl dL_law_621 dL_law_622 dL_law_623 dL_law_624 dL_law_625 ?_
  refine wl_arg X 4 hi (by decide) (v := 4) (by decide) (ki := 4) (by decide) 1 0 rfl rfl dL_law_626 dL_law_627 dL_law_628 dL_law_629 dL_law_630 ?_
  refine wl_callD X (as := [vI (xs (i.toInt.toNat + 1)), vI (xs (i.toInt.toNat + 2)), vI (xs (i.toInt.toNat + 3)), vI (xs (i.toInt.toNat + 4))]) (rest := []) (c_X12_habit l G cy ad 0 (xs (i.toInt.toNat + 1)) (xs (i.toInt.toNat + 2)) (xs (i.toInt.toNat + 3)) (xs (i.toInt.toNat + 4)) M2_ hD1_) kV_X12_habit pnn_17 (Nat.le_of_ble_eq_true rfl) m_1538 rfl rfl rfl (by decide) (Nat.le_of_ble_eq_true rfl) (Nat.le_of_ble_eq_true rfl) dL_law_631 (fun r4_ M5_ q6_ => ?_)
  obtain ⟨hI2_, hF2_, -, hs2_⟩ := q6_
  have e2_ : (mgD M5_ M2_).1 = M5_.1 := mgD_self hF2_ SD_X12_habit
  have hI9_ : Inv (mgD M5_ M2_) := mgD_I hI1_
  have hD9_ : InvD (mgD M5_ M2_) := mgD_D hI2_
  have st_ := st_11 hR hD hF1_ hs1_ hF2_ hs2_
  refine wl_pop X dL_law_634 ?_
  refine wl_goto X (tgt := 1731) dL_law_635 (by decide) ?_
  exact hend _ hI9_ hD9_ (by rw [e2_]; exact st_.1)
set_option maxHeartbeats 4000000 in
set_option maxRecDepth 100000 in
theorem law_case_12 {p : Program} {l : Launch} {e : Env} {s : State} {m : MethodId} {below : List Frame} {meth : Method} {c : Code} {b L : Nat} {xs : Nat → Int32} {A : Nat → Prop} {G : va_G} {cy : Nat → ClassId} {ad : rf → Nat} {ce sl : Nat} {Z : State → Prop} (X : LX p s m c b L xs A G cy ad ce sl) {i : Int32} {M : mM} (hI : Inv M) (hD : InvD M) (hR : RXz M.1) (hi : 0 ≤ i.toInt ∧ i.toInt + 6 ≤ (L : Int)) (hend : ∀ M' : mM, Inv M' → InvD M' → RXz M'.1 → WL p l e s m below meth c b A G cy ad ce sl Z 1731 [(3, vI i), (0, vR (94, 0, 0)), (1, vR (11, 0, 0)), (2, vR (12, 0, 0))] [] M') : WL p l e s m below meth c b A G cy ad ce sl Z 638 [(3, vI i), (0, vR (94, 0, 0)), (1, vR (11, 0, 0)), (2, vR (12, 0, 0))] [] M := by
  refine wl_aload_n X dL_law_638 rfl 2 rfl ?_
  refine wl_arg X 1 hi (by decide) (v := 1) (by decide) (ki := 1) (by decide) 1 0 rfl rfl dL_law_639 dL_law_640 dL_law_641 dL_law_642 dL_law_643 ?_
  refine wl_arg X 2 hi (by decide) (v := 2) (by decide) (ki := 2) (by decide) 1 0 rfl rfl dL_law_644 dL_law_645 dL_law_646 dL_law_647 dL_law_648 ?_
  refine wl_callC X (as := [vI (xs (i.toInt.toNat + 1)), vI (xs (i.toInt.toNat + 2))]) (rest := []) (c_X11_face l G cy ad 0 (xs (i.toInt.toNat + 1)) (xs (i.toInt.toNat + 2)) M hI) kV_X11_face pnn_0 (Nat.le_of_ble_eq_true rfl) m_657 rfl rfl rfl (by decide) (Nat.le_of_ble_eq_true rfl) (Nat.le_of_ble_eq_true rfl) dL_law_649 (fun r1_ M2_ q3_ => ?_)
  obtain ⟨hI1_, hF1_, -, hs1_⟩ := q3_
  have e1_ : mgC M2_ M = M2_ := mgC_self hF1_ SC_X11_face
  rw [e1_]
  have hD1_ : InvD M2_ := e1_ ▸ mgC_D (M' := M2_) hD
  refine wl_pop X dL_law_652 ?_
  refine wl_aload_n X dL_law_653 rfl 3 rfl ?_
  refine wl_arg X 1 hi (by decide) (v := 1) (by decide) (ki := 1) (by decide) 1 0 rfl rfl dL_law_654 dL_law_655 dL_law_656 dL_law_657 dL_law_658 ?_
  refine wl_arg X 2 hi (by decide) (v := 2) (by decide) (ki := 2) (by decide) 1 0 rfl rfl dL_law_659 dL_law_660 dL_law_661 dL_law_662 dL_law_663 ?_
  refine wl_callD X (as := [vI (xs (i.toInt.toNat + 1)), vI (xs (i.toInt.toNat + 2))]) (rest := []) (c_X12_face l G cy ad 0 (xs (i.toInt.toNat + 1)) (xs (i.toInt.toNat + 2)) M2_ hD1_) kV_X12_face pnn_17 (Nat.le_of_ble_eq_true rfl) m_1542 rfl rfl rfl (by decide) (Nat.le_of_ble_eq_true rfl) (Nat.le_of_ble_eq_true rfl) dL_law_664 (fun r4_ M5_ q6_ => ?_)
  obtain ⟨hI2_, hF2_, -, hs2_⟩ := q6_
  have e2_ : (mgD M5_ M2_).1 = M5_.1 := mgD_self hF2_ SD_X12_face
  have hI9_ : Inv (mgD M5_ M2_) := mgD_I hI1_
  have hD9_ : InvD (mgD M5_ M2_) := mgD_D hI2_
  have st_ := st_12 hR hD hF1_ hs1_ hF2_ hs2_
  refine wl_pop X dL_law_667 ?_
  refine wl_goto X (tgt := 1731) dL_law_668 (by decide) ?_
  exact hend _ hI9_ hD9_ (by rw [e2_]; exact st_.1)
set_option maxHeartbeats 4000000 in
set_option maxRecDepth 100000 in
theorem law_case_13 {p : Program} {l : Launch} {e : Env} {s : State} {m : MethodId} {below : List Frame} {meth : Method} {c : Code} {b L : Nat} {xs : Nat → Int32} {A : Nat → Prop} {G : va_G} {cy : Nat → ClassId} {ad : rf → Nat} {ce sl : Nat} {Z : State → Prop} (X : LX p s m c b L xs A G cy ad ce sl) {i : Int32} {M : mM} (hI : Inv M) (hD : InvD M) (hR : RXz M.1) (hi : 0 ≤ i.toInt ∧ i.toInt + 6 ≤ (L : Int)) (hend : ∀ M' : mM, Inv M' → InvD M' → RXz M'.1 → WL p l e s m below meth c b A G cy ad ce sl Z 1731 [(3, vI i), (0, vR (94, 0, 0)), (1, vR (11, 0, 0)), (2, vR (12, 0, 0))] [] M') : WL p l e s m below meth c b A G cy ad ce sl Z 671 [(3, vI i), (0, vR (94, 0, 0)), (1, vR (11, 0, 0)), (2, vR (12, 0, 0))] [] M := by
  refine wl_aload_n X dL_law_671 rfl 2 rfl ?_
  refine wl_arg X 1 hi (by decide) (v := 1) (by decide) (ki := 1) (by decide) 1 0 rfl rfl dL_law_672 dL_law_673 dL_law_674 dL_law_675 dL_law_676 ?_
  refine wl_arg X 2 hi (by decide) (v := 2) (by decide) (ki := 2) (by decide) 1 0 rfl rfl dL_law_677 dL_law_678 dL_law_679 dL_law_680 dL_law_681 ?_
  refine wl_if_eq X (tgt := 689) dL_law_682 (by decide) ?_ ?_
  · refine wl_iconst X (v := 0) dL_law_689 (by decide) ?_
    refine wl_callC X (as := [vI (xs (i.toInt.toNat + 1)), vI 0]) (rest := []) (c_X11_goes l G cy ad 0 (xs (i.toInt.toNat + 1)) 0 M hI ⟨by decide, by decide⟩) kV_X11_goes pnn_0 (Nat.le_of_ble_eq_true rfl) m_661 rfl rfl rfl (by decide) (Nat.le_of_ble_eq_true rfl) (Nat.le_of_ble_eq_true rfl) dL_law_690 (fun r1_ M2_ q3_ => ?_)
    obtain ⟨hI1_, hF1_, -, hs1_⟩ := q3_
    have e1_ : mgC M2_ M = M2_ := mgC_self hF1_ SC_X11_goes
    rw [e1_]
    have hD1_ : InvD M2_ := e1_ ▸ mgC_D (M' := M2_) hD
    refine wl_pop X dL_law_693 ?_
    refine wl_aload_n X dL_law_694 rfl 3 rfl ?_
    refine wl_arg X 1 hi (by decide) (v := 1) (by decide) (ki := 1) (by decide) 1 0 rfl rfl dL_law_695 dL_law_696 dL_law_697 dL_law_698 dL_law_699 ?_
    refine wl_arg X 2 hi (by decide) (v := 2) (by decide) (ki := 2) (by decide) 1 0 rfl rfl dL_law_700 dL_law_701 dL_law_702 dL_law_703 dL_law_704 ?_
    refine wl_if_eq X (tgt := 712) dL_law_705 (by decide) ?_ ?_
    · refine wl_iconst X (v := 0) dL_law_712 (by decide) ?_
      refine wl_callD X (as := [vI (xs (i.toInt.toNat + 1)), vI 0]) (rest := []) (c_X12_goes l G cy ad 0 (xs (i.toInt.toNat + 1)) 0 M2_ hD1_ ⟨by decide, by decide⟩) kV_X12_goes pnn_17 (Nat.le_of_ble_eq_true rfl) m_1546 rfl rfl rfl (by decide) (Nat.le_of_ble_eq_true rfl) (Nat.le_of_ble_eq_true rfl) dL_law_713 (fun r4_ M5_ q6_ => ?_)
      obtain ⟨hI2_, hF2_, -, hs2_⟩ := q6_
      have e2_ : (mgD M5_ M2_).1 = M5_.1 := mgD_self hF2_ SD_X12_goes
      have hI9_ : Inv (mgD M5_ M2_) := mgD_I hI1_
      have hD9_ : InvD (mgD M5_ M2_) := mgD_D hI2_
      have st_ := st_13 hR hD hF1_ hs1_ hF2_ hs2_
      refine wl_pop X dL_law_716 ?_
      refine wl_goto X (tgt := 1731) dL_law_717 (by decide) ?_
      exact hend _ hI9_ hD9_ (by rw [e2_]; exact st_.1)
    · refine wl_iconst X (v := 1) dL_law_708 (by decide) ?_
      refine wl_goto X (tgt := 713) dL_law_709 (by decide) ?_
      refine wl_callD X (as := [vI (xs (i.toInt.toNat + 1)), vI 1]) (rest := []) (c_X12_goes l G cy ad 0 (xs (i.toInt.toNat + 1)) 1 M2_ hD1_ ⟨by decide, by decide⟩) kV_X12_goes pnn_17 (Nat.le_of_ble_eq_true rfl) m_1546 rfl rfl rfl (by decide) (Nat.le_of_ble_eq_true rfl) (Nat.le_of_ble_eq_true rfl) dL_law_713 (fun r7_ M8_ q9_ => ?_)
      obtain ⟨hI2_, hF2_, -, hs2_⟩ := q9_
      have e2_ : (mgD M8_ M2_).1 = M8_.1 := mgD_self hF2_ SD_X12_goes
      have hI9_ : Inv (mgD M8_ M2_) := mgD_I hI1_
      have hD9_ : InvD (mgD M8_ M2_) := mgD_D hI2_
      have st_ := st_13 hR hD hF1_ hs1_ hF2_ hs2_
      refine wl_pop X dL_law_716 ?_
      refine wl_goto X (tgt := 1731) dL_law_717 (by decide) ?_
      exact hend _ hI9_ hD9_ (by rw [e2_]; exact st_.1)
  · refine wl_iconst X (v := 1) dL_law_685 (by decide) ?_
    refine wl_goto X (tgt := 690) dL_law_686 (by decide) ?_
    refine wl_callC X (as := [vI (xs (i.toInt.toNat + 1)), vI 1]) (rest := []) (c_X11_goes l G cy ad 0 (xs (i.toInt.toNat + 1)) 1 M hI ⟨by decide, by decide⟩) kV_X11_goes pnn_0 (Nat.le_of_ble_eq_true rfl) m_661 rfl rfl rfl (by decide) (Nat.le_of_ble_eq_true rfl) (Nat.le_of_ble_eq_true rfl) dL_law_690 (fun r10_ M11_ q12_ => ?_)
    obtain ⟨hI1_, hF1_, -, hs1_⟩ := q12_
    have e1_ : mgC M11_ M = M11_ := mgC_self hF1_ SC_X11_goes
    rw [e1_]
    have hD1_ : InvD M11_ := e1_ ▸ mgC_D (M' := M11_) hD
    refine wl_pop X dL_law_693 ?_
    refine wl_aload_n X dL_law_694 rfl 3 rfl ?_
    refine wl_arg X 1 hi (by decide) (v := 1) (by decide) (ki := 1) (by decide) 1 0 rfl rfl dL_law_695 dL_law_696 dL_law_697 dL_law_698 dL_law_699 ?_
    refine wl_arg X 2 hi (by decide) (v := 2) (by decide) (ki := 2) (by decide) 1 0 rfl rfl dL_law_700 dL_law_701 dL_law_702 dL_law_703 dL_law_704 ?_
    refine wl_if_eq X (tgt := 712) dL_law_705 (by decide) ?_ ?_
    · refine wl_iconst X (v := 0) dL_law_712 (by decide) ?_
      refine wl_callD X (as := [vI (xs (i.toInt.toNat + 1)), vI 0]) (rest := []) (c_X12_goes l G cy ad 0 (xs (i.toInt.toNat + 1)) 0 M11_ hD1_ ⟨by decide, by decide⟩) kV_X12_goes pnn_17 (Nat.le_of_ble_eq_true rfl) m_1546 rfl rfl rfl (by decide) (Nat.le_of_ble_eq_true rfl) (Nat.le_of_ble_eq_true rfl) dL_law_713 (fun r13_ M14_ q15_ => ?_)
      obtain ⟨hI2_, hF2_, -, hs2_⟩ := q15_
      have e2_ : (mgD M14_ M11_).1 = M14_.1 := mgD_self hF2_ SD_X12_goes
      have hI9_ : Inv (mgD M14_ M11_) := mgD_I hI1_
      have hD9_ : InvD (mgD M14_ M11_) := mgD_D hI2_
      have st_ := st_13 hR hD hF1_ hs1_ hF2_ hs2_
      refine wl_pop X dL_law_716 ?_
      refine wl_goto X (tgt := 1731) dL_law_717 (by decide) ?_
      exact hend _ hI9_ hD9_ (by rw [e2_]; exact st_.1)
    · refine wl_iconst X (v := 1) dL_law_708 (by decide) ?_
      refine wl_goto X (tgt := 713) dL_law_709 (by decide) ?_
      refine wl_callD X (as := [vI (xs (i.toInt.toNat + 1)), vI 1]) (rest := []) (c_X12_goes l G cy ad 0 (xs (i.toInt.toNat + 1)) 1 M11_ hD1_ ⟨by decide, by decide⟩) kV_X12_goes pnn_17 (Nat.le_of_ble_eq_true rfl) m_1546 rfl rfl rfl (by decide) (Nat.le_of_ble_eq_true rfl) (Nat.le_of_ble_eq_true rfl) dL_law_713 (fun r16_ M17_ q18_ => ?_)
      obtain ⟨hI2_, hF2_, -, hs2_⟩ := q18_
      have e2_ : (mgD M17_ M11_).1 = M17_.1 := mgD_self hF2_ SD_X12_goes
      have hI9_ : Inv (mgD M17_ M11_) := mgD_I hI1_
      have hD9_ : InvD (mgD M17_ M11_) := mgD_D hI2_
      have st_ := st_13 hR hD hF1_ hs1_ hF2_ hs2_
      refine wl_pop X dL_law_716 ?_
      refine wl_goto X (tgt := 1731) dL_law_717 (by decide) ?_
      exact hend _ hI9_ hD9_ (by rw [e2_]; exact st_.1)
set_option maxHeartbeats 4000000 in
set_option maxRecDepth 100000 in
theorem law_case_14 {p : Program} {l : Launch} {e : Env} {s : State} {m : MethodId} {below : List Frame} {meth : Method} {c : Code} {b L : Nat} {xs : Nat → Int32} {A : Nat → Prop} {G : va_G} {cy : Nat → ClassId} {ad : rf → Nat} {ce sl : Nat} {Z : State → Prop} (X : LX p s m c b L xs A G cy ad ce sl) {i : Int32} {M : mM} (hI : Inv M) (hD : InvD M) (hR : RXz M.1) (hi : 0 ≤ i.toInt ∧ i.toInt + 6 ≤ (L : Int)) (hend : ∀ M' : mM, Inv M' → InvD M' → RXz M'.1 → WL p l e s m below meth c b A G cy ad ce sl Z 1731 [(3, vI i), (0, vR (94, 0, 0)), (1, vR (11, 0, 0)), (2, vR (12, 0, 0))] [] M') : WL p l e s m below meth c b A G cy ad ce sl Z 720 [(3, vI i), (0, vR (94, 0, 0)), (1, vR (11, 0, 0)), (2, vR (12, 0, 0))] [] M := by
  refine wl_aload_n X dL_law_720 rfl 2 rfl ?_
  refine wl_arg X 1 hi (by decide) (v := 1) (by decide) (ki := 1) (by decide) 1 0 rfl rfl dL_law_721 dL_law_722 dL_law_723 dL_law_724 dL_law_725 ?_
  refine wl_i2l X dL_law_726 (fun w1_ => ?_)
  refine wl_bipush X (v := 32) dL_law_727 (by decide) ?_
  refine wl_lshl X dL_law_729 (fun w2_ => ?_)
  refine wl_arg X 2 hi (by decide) (v := 2) (by decide) (ki := 2) (by decide) 1 0 rfl rfl dL_law_730 dL_law_731 dL_law_732 dL_law_733 dL_law_734 ?_
  refine wl_i2l X dL_law_735 (fun w3_ => ?_)
  refine wl_ldc2 X (v := 4294967295) m_1870 dL_law_736 ?_
  refine wl_land X dL_law_739 (fun w4_ => ?_)
  refine wl_lor X dL_law_740 (fun w5_ => ?_)
  refine wl_arg X 3 hi (by decide) (v := 3) (by decide) (ki := 3) (by decide) 1 0 rfl rfl dL_law_741 dL_law_742 dL_law_743 dL_law_744 dL_law_745 ?_
  refine wl_callC X (as := [vL w5_, vI (xs (i.toInt.toNat + 3))]) (rest := []) (c_X11_feed l G cy ad 0 w5_ (xs (i.toInt.toNat + 3)) M hI) kV_X11_feed pnn_0 (Nat.le_of_ble_eq_true rfl) m_665 rfl rfl rfl (by decide) (Nat.le_of_ble_eq_true rfl) (Nat.le_of_ble_eq_true rfl) dL_law_746 (fun r6_ M7_ q8_ => ?_)
  obtain ⟨hI1_, hF1_, -, hs1_⟩ := q8_
  have e1_ : mgC M7_ M = M7_ := mgC_self hF1_ SC_X11_feed
  rw [e1_]
  have hD1_ : InvD M7_ := e1_ ▸ mgC_D (M' := M7_) hD
  refine wl_pop X dL_law_749 ?_
  refine wl_aload_n X dL_law_750 rfl 3 rfl ?_
  refine wl_arg X 1 hi (by decide) (v := 1) (by decide) (ki := 1) (by decide) 1 0 rfl rfl dL_law_751 dL_law_752 dL_law_753 dL_law_754 dL_law_755 ?_
  refine wl_i2l X dL_law_756 (fun w9_ => ?_)
  refine wl_bipush X (v := 32) dL_law_757 (by decide) ?_
  refine wl_lshl X dL_law_759 (fun w10_ => ?_)
  refine wl_arg X 2 hi (by decide) (v := 2) (by decide) (ki := 2) (by decide) 1 0 rfl rfl dL_law_760 dL_law_761 dL_law_762 dL_law_763 dL_law_764 ?_
  refine wl_i2l X dL_law_765 (fun w11_ => ?_)
  refine wl_ldc2 X (v := 4294967295) m_1870 dL_law_766 ?_
  refine wl_land X dL_law_769 (fun w12_ => ?_)
  refine wl_lor X dL_law_770 (fun w13_ => ?_)
  refine wl_arg X 3 hi (by decide) (v := 3) (by decide) (ki := 3) (by decide) 1 0 rfl rfl dL_law_771 dL_law_772 dL_law_773 dL_law_774 dL_law_775 ?_
  refine wl_callD X (as := [vL w13_, vI (xs (i.toInt.toNat + 3))]) (rest := []) (c_X12_feed l G cy ad 0 w13_ (xs (i.toInt.toNat + 3)) M7_ hD1_) kV_X12_feed pnn_17 (Nat.le_of_ble_eq_true rfl) m_1550 rfl rfl rfl (by decide) (Nat.le_of_ble_eq_true rfl) (Nat.le_of_ble_eq_true rfl) dL_law_776 (fun r14_ M15_ q16_ => ?_)
  obtain ⟨hI2_, hF2_, -, hs2_⟩ := q16_
  have e2_ : (mgD M15_ M7_).1 = M15_.1 := mgD_self hF2_ SD_X12_feed
  have hI9_ : Inv (mgD M15_ M7_) := mgD_I hI1_
  have hD9_ : InvD (mgD M15_ M7_) := mgD_D hI2_
  have st_ := st_14 hR hD hF1_ hs1_ hF2_ hs2_
  refine wl_pop X dL_law_779 ?_
  refine wl_goto X (tgt := 1731) dL_law_780 (by decide) ?_
  exact hend _ hI9_ hD9_ (by rw [e2_]; exact st_.1)
set_option maxHeartbeats 4000000 in
set_option maxRecDepth 100000 in
theorem law_case_15 {p : Program} {l : Launch} {e : Env} {s : State} {m : MethodId} {below : List Frame} {meth : Method} {c : Code} {b L : Nat} {xs : Nat → Int32} {A : Nat → Prop} {G : va_G} {cy : Nat → ClassId} {ad : rf → Nat} {ce sl : Nat} {Z : State → Prop} (X : LX p s m c b L xs A G cy ad ce sl) {i : Int32} {M : mM} (hI : Inv M) (hD : InvD M) (hR : RXz M.1) (hi : 0 ≤ i.toInt ∧ i.toInt + 6 ≤ (L : Int)) (hend : ∀ M' : mM, Inv M' → InvD M' → RXz M'.1 → WL p l e s m below meth c b A G cy ad ce sl Z 1731 [(3, vI i), (0, vR (94, 0, 0)), (1, vR (11, 0, 0)), (2, vR (12, 0, 0))] [] M') : WL p l e s m below meth c b A G cy ad ce sl Z 783 [(3, vI i), (0, vR (94, 0, 0)), (1, vR (11, 0, 0)), (2, vR (12, 0, 0))] [] M := by
  refine wl_aload_n X dL_law_783 rfl 2 rfl ?_
  refine wl_arg X 1 hi (by decide) (v := 1) (by decide) (ki := 1) (by decide) 1 0 rfl rfl dL_law_784 dL_law_785 dL_law_786 dL_law_787 dL_law_788 ?_
  refine wl_callC X (as := [vI (xs (i.toInt.toNat + 1))]) (rest := []) (c_X11_text l G cy ad 0 (xs (i.toInt.toNat + 1)) M hI) kV_X11_text pnn_0 (Nat.le_of_ble_eq_true rfl) m_677 rfl rfl rfl (by decide) (Nat.le_of_ble_eq_true rfl) (Nat.le_of_ble_eq_true rfl) dL_law_789 (fun r1_ M2_ q3_ => ?_)
  obtain ⟨hI1_, hF1_, -, hs1_⟩ := q3_
  have e1_ : mgC M2_ M = M2_ := mgC_self hF1_ SC_X11_text
  rw [e1_]
  have hD1_ : InvD M2_ := e1_ ▸ mgC_D (M' := M2_) hD
  refine wl_pop X dL_law_792 ?_
  refine wl_aload_n X dL_law_793 rfl 3 rfl ?_
  refine wl_arg X 1 hi (by decide) (v := 1) (by decide) (ki := 1) (by decide) 1 0 rfl rfl dL_law_794 dL_law_795 dL_law_796 dL_law_797 dL_law_798 ?_
  refine wl_callD X (as := [vI (xs (i.toInt.toNat + 1))]) (rest := []) (c_X12_text_ l G cy ad 0 (xs (i.toInt.toNat + 1)) M2_ hD1_) kV_X12_text_ pnn_17 (Nat.le_of_ble_eq_true rfl) m_1555 rfl rfl rfl (by decide) (Nat.le_of_ble_eq_true rfl) (Nat.le_of_ble_eq_true rfl) dL_law_799 (fun r4_ M5_ q6_ => ?_)
  obtain ⟨hI2_, hF2_, -, hs2_⟩ := q6_
  have e2_ : (mgD M5_ M2_).1 = M5_.1 := mgD_self hF2_ SD_X12_text_
  have hI9_ : Inv (mgD M5_ M2_) := mgD_I hI1_
  have hD9_ : InvD (mgD M5_ M2_) := mgD_D hI2_
  have st_ := st_15 hR hD hF1_ hs1_ hF2_ hs2_
  refine wl_pop X dL_law_802 ?_
  refine wl_goto X (tgt := 1731) dL_law_803 (by decide) ?_
  exact hend _ hI9_ hD9_ (by rw [e2_]; exact st_.1)
set_option maxHeartbeats 4000000 in
set_option maxRecDepth 100000 in
theorem law_case_16 {p : Program} {l : Launch} {e : Env} {s : State} {m : MethodId} {below : List Frame} {meth : Method} {c : Code} {b L : Nat} {xs : Nat → Int32} {A : Nat → Prop} {G : va_G} {cy : Nat → ClassId} {ad : rf → Nat} {ce sl : Nat} {Z : State → Prop} (X : LX p s m c b L xs A G cy ad ce sl) {i : Int32} {M : mM} (hI : Inv M) (hD : InvD M) (hR : RXz M.1) (hi : 0 ≤ i.toInt ∧ i.toInt + 6 ≤ (L : Int)) (hend : ∀ M' : mM, Inv M' → InvD M' → RXz M'.1 → WL p l e s m below meth c b A G cy ad ce sl Z 1731 [(3, vI i), (0, vR (94, 0, 0)), (1, vR (11, 0, 0)), (2, vR (12, 0, 0))] [] M') : WL p l e s m below meth c b A G cy ad ce sl Z 806 [(3, vI i), (0, vR (94, 0, 0)), (1, vR (11, 0, 0)), (2, vR (12, 0, 0))] [] M := by
  refine wl_aload_n X dL_law_806 rfl 2 rfl ?_
  refine wl_arg X 1 hi (by decide) (v := 1) (by decide) (ki := 1) (by decide) 1 0 rfl rfl dL_law_807 dL_law_808 dL_law_809 dL_law_810 dL_law_811 ?_
  refine wl_arg X 2 hi (by decide) (v := 2) (by decide) (ki := 2) (by decide) 1 0 rfl rfl dL_law_812 dL_law_813 dL_law_814 dL_law_815 dL_law_816 ?_
  refine wl_arg X 3 hi (by decide) (v := 3) (by decide) (ki := 3) (by decide) 1 0 rfl rfl dL_law_817 dL_law_818 dL_law_819 dL_law_820 dL_law_821 ?_
  refine wl_arg X 4 hi (by decide) (v := 4) (by decide) (ki := 4) (by decide) 1 0 rfl rfl dL_law_822 dL_law_823 dL_law_824 dL_law_825 dL_law_826 ?_
  refine wl_callC X (as := [vI (xs (i.toInt.toNat + 1)), vI (xs (i.toInt.toNat + 2)), vI (xs (i.toInt.toNat + 3)), vI (xs (i.toInt.toNat + 4))]) (rest := []) (c_X11_echo l G cy ad 0 (xs (i.toInt.toNat + 1)) (xs (i.toInt.toNat + 2)) (xs (i.toInt.toNat + 3)) (xs (i.toInt.toNat + 4)) M hI) kV_X11_echo pnn_0 (Nat.le_of_ble_eq_true rfl) m_835 rfl rfl rfl (by decide) (Nat.le_of_ble_eq_true rfl) (Nat.le_of_ble_eq_true rfl) dL_law_827 (fun r1_ M2_ q3_ => ?_)
  obtain ⟨hI1_, hF1_, -, hs1_⟩ := q3_
  have e1_ : mgC M2_ M = M2_ := mgC_self hF1_ SC_X11_echo
  rw [e1_]
  have hD1_ : InvD M2_ := e1_ ▸ mgC_D (M' := M2_) hD
  refine wl_pop X dL_law_830 ?_
  refine wl_aload_n X dL_law_831 rfl 3 rfl ?_
  refine wl_arg X 1 hi (by decide) (v := 1) (by decide) (ki := 1) (by decide) 1 0 rfl rfl dL_law_832 dL_law_833 dL_law_834 dL_law_835 dL_law_836 ?_
  refine wl_arg X 2 hi (by decide) (v := 2) (by decide) (ki := 2) (by decide) 1 0 rfl rfl dL_law_837 dL_law_838 dL_law_839 dL_law_840 dL_law_841 ?_
  refine wl_arg X 3 hi (by decide) (v := 3) (by decide) (ki := 3) (by decide) 1 0 rfl rfl dL_law_842 dL_law_843 dL_law_844 dL_law_845 dL_law_846 ?_
  refine wl_arg X 4 hi (by decide) (v := 4) (by decide) (ki := 4) (by decide) 1 0 rfl rfl dL_law_847 dL_law_848 dL_law_849 dL_law_850 dL_law_851 ?_
  refine wl_callD X (as := [vI (xs (i.toInt.toNat + 1)), vI (xs (i.toInt.toNat + 2)), vI (xs (i.toInt.toNat + 3)), vI (xs (i.toInt.toNat + 4))]) (rest := []) (c_X12_echo l G cy ad 0 (xs (i.toInt.toNat + 1)) (xs (i.toInt.toNat + 2)) (xs (i.toInt.toNat + 3)) (xs (i.toInt.toNat + 4)) M2_ hD1_) kV_X12_echo pnn_17 (Nat.le_of_ble_eq_true rfl) m_1620 rfl rfl rfl (by decide) (Nat.le_of_ble_eq_true rfl) (Nat.le_of_ble_eq_true rfl) dL_law_852 (fun r4_ M5_ q6_ => ?_)
  obtain ⟨hI2_, hF2_, -, hs2_⟩ := q6_
  have e2_ : (mgD M5_ M2_).1 = M5_.1 := mgD_self hF2_ SD_X12_echo
  have hI9_ : Inv (mgD M5_ M2_) := mgD_I hI1_
  have hD9_ : InvD (mgD M5_ M2_) := mgD_D hI2_
  have st_ := st_16 hR hD hF1_ hs1_ hF2_ hs2_
  refine wl_pop X dL_law_855 ?_
  refine wl_goto X (tgt := 1731) dL_law_856 (by decide) ?_
  exact hend _ hI9_ hD9_ (by rw [e2_]; exact st_.1)
set_option maxHeartbeats 4000000 in
set_option maxRecDepth 100000 in
theorem law_case_17 {p : Program} {l : Launch} {e : Env} {s : State} {m : MethodId} {below : List Frame} {meth : Method} {c : Code} {b L : Nat} {xs : Nat → Int32} {A : Nat → Prop} {G : va_G} {cy : Nat → ClassId} {ad : rf → Nat} {ce sl : Nat} {Z : State → Prop} (X : LX p s m c b L xs A G cy ad ce sl) {i : Int32} {M : mM} (hI : Inv M) (hD : InvD M) (hR : RXz M.1) (hi : 0 ≤ i.toInt ∧ i.toInt + 6 ≤ (L : Int)) (hend : ∀ M' : mM, Inv M' → InvD M' → RXz M'.1 → WL p l e s m below meth c b A G cy ad ce sl Z 1731 [(3, vI i), (0, vR (94, 0, 0)), (1, vR (11, 0, 0)), (2, vR (12, 0, 0))] [] M') : WL p l e s m below meth c b A G cy ad ce sl Z 859 [(3, vI i), (0, vR (94, 0, 0)), (1, vR (11, 0, 0)), (2, vR (12, 0, 0))] [] M := by
  refine wl_aload_n X dL_law_859 rfl 2 rfl ?_
  refine wl_arg X 1 hi (by decide) (v := 1) (by decide) (ki := 1) (by decide) 1 0 rfl rfl dL_law_860 dL_law_861 dL_law_862 dL_law_863 dL_law_864 ?_
  refine wl_callC X (as := [vI (xs (i.toInt.toNat + 1))]) (rest := []) (c_X11_click l G cy ad 0 (xs (i.toInt.toNat + 1)) M hI) kV_X11_click pnn_0 (Nat.le_of_ble_eq_true rfl) m_892 rfl rfl rfl (by decide) (Nat.le_of_ble_eq_true rfl) (Nat.le_of_ble_eq_true rfl) dL_law_865 (fun r1_ M2_ q3_ => ?_)
  obtain ⟨hI1_, hF1_, -, hs1_⟩ := q3_
  have e1_ : mgC M2_ M = M2_ := mgC_self hF1_ SC_X11_click
  rw [e1_]
  have hD1_ : InvD M2_ := e1_ ▸ mgC_D (M' := M2_) hD
  refine wl_pop X dL_law_868 ?_
  refine wl_aload_n X dL_law_869 rfl 3 rfl ?_
  refine wl_arg X 1 hi (by decide) (v := 1) (by decide) (ki := 1) (by decide) 1 0 rfl rfl dL_law_870 dL_law_871 dL_law_872 dL_law_873 dL_law_874 ?_
  refine wl_callD X (as := [vI (xs (i.toInt.toNat + 1))]) (rest := []) (c_X12_click l G cy ad 0 (xs (i.toInt.toNat + 1)) M2_ hD1_) kV_X12_click pnn_17 (Nat.le_of_ble_eq_true rfl) m_1667 rfl rfl rfl (by decide) (Nat.le_of_ble_eq_true rfl) (Nat.le_of_ble_eq_true rfl) dL_law_875 (fun r4_ M5_ q6_ => ?_)
  obtain ⟨hI2_, hF2_, -, hs2_⟩ := q6_
  have e2_ : (mgD M5_ M2_).1 = M5_.1 := mgD_self hF2_ SD_X12_click
  have hI9_ : Inv (mgD M5_ M2_) := mgD_I hI1_
  have hD9_ : InvD (mgD M5_ M2_) := mgD_D hI2_
  have st_ := st_17 hR hD hF1_ hs1_ hF2_ hs2_
  refine wl_pop X dL_law_878 ?_
  refine wl_goto X (tgt := 1731) dL_law_879 (by decide) ?_
  exact hend _ hI9_ hD9_ (by rw [e2_]; exact st_.1)
set_option maxHeartbeats 4000000 in
set_option maxRecDepth 100000 in
theorem law_case_18 {p : Program} {l : Launch} {e : Env} {s : State} {m : MethodId} {below : List Frame} {meth : Method} {c : Code} {b L : Nat} {xs : Nat → Int32} {A : Nat → Prop} {G : va_G} {cy : Nat → ClassId} {ad : rf → Nat} {ce sl : Nat} {Z : State → Prop} (X : LX p s m c b L xs A G cy ad ce sl) {i : Int32} {M : mM} (hI : Inv M) (hD : InvD M) (hR : RXz M.1) (hi : 0 ≤ i.toInt ∧ i.toInt + 6 ≤ (L : Int)) (hend : ∀ M' : mM, Inv M' → InvD M' → RXz M'.1 → WL p l e s m below meth c b A G cy ad ce sl Z 1731 [(3, vI i), (0, vR (94, 0, 0)), (1, vR (11, 0, 0)), (2, vR (12, 0, 0))] [] M') : WL p l e s m below meth c b A G cy ad ce sl Z 882 [(3, vI i), (0, vR (94, 0, 0)), (1, vR (11, 0, 0)), (2, vR (12, 0, 0))] [] M := by
  refine wl_aload_n X dL_law_882 rfl 2 rfl ?_
  refine wl_arg X 1 hi (by decide) (v := 1) (by decide) (ki := 1) (by decide) 1 0 rfl rfl dL_law_883 dL_law_884 dL_law_885 dL_law_886 dL_law_887 ?_
  refine wl_arg X 2 hi (by decide) (v := 2) (by decide) (ki := 2) (by decide) 1 0 rfl rfl dL_law_888 dL_law_889 dL_law_890 dL_law_891 dL_law_892 ?_
  refine wl_arg X 3 hi (by decide) (v := 3) (by decide) (ki := 3) (by decide) 1 0 rfl rfl dL_law_893 dL_law_894 dL_law_895 dL_law_896 dL_law_897 ?_
  refine wl_callC X (as := [vI (xs (i.toInt.toNat + 1)), vI (xs (i.toInt.toNat + 2)), vI (xs (i.toInt.toNat + 3))]) (rest := []) (c_X11_head l G cy ad 0 (xs (i.toInt.toNat + 1)) (xs (i.toInt.toNat + 2)) (xs (i.toInt.toNat + 3)) M hI) kV_X11_head pnn_0 (Nat.le_of_ble_eq_true rfl) m_925 rfl rfl rfl (by decide) (Nat.le_of_ble_eq_true rfl) (Nat.le_of_ble_eq_true rfl) dL_law_898 (fun r1_ M2_ q3_ => ?_)
  obtain ⟨hI1_, hF1_, -, hs1_⟩ := q3_
  have e1_ : mgC M2_ M = M2_ := mgC_self hF1_ SC_X11_head
  rw [e1_]
  have hD1_ : InvD M2_ := e1_ ▸ mgC_D (M' := M2_) hD
  refine wl_pop X dL_law_901 ?_
  refine wl_aload_n X dL_law_902 rfl 3 rfl ?_
  refine wl_arg X 1 hi (by decide) (v := 1) (by decide) (ki := 1) (by decide) 1 0 rfl rfl dL_law_903 dL_law_904 dL_law_905 dL_law_906 dL_law_907 ?_
  refine wl_arg X 2 hi (by decide) (v := 2) (by decide) (ki := 2) (by decide) 1 0 rfl rfl dL_law_908 dL_law_909 dL_law_910 dL_law_911 dL_law_912 ?_
  refine wl_arg X 3 hi (by decide) (v := 3) (by decide) (ki := 3) (by decide) 1 0 rfl rfl dL_law_913 dL_law_914 dL_law_915 dL_law_916 dL_law_917 ?_
  refine wl_callD X (as := [vI (xs (i.toInt.toNat + 1)), vI (xs (i.toInt.toNat + 2)), vI (xs (i.toInt.toNat + 3))]) (rest := []) (c_X12_head l G cy ad 0 (xs (i.toInt.toNat + 1)) (xs (i.toInt.toNat + 2)) (xs (i.toInt.toNat + 3)) M2_ hD1_) kV_X12_head pnn_17 (Nat.le_of_ble_eq_true rfl) m_1691 rfl rfl rfl (by decide) (Nat.le_of_ble_eq_true rfl) (Nat.le_of_ble_eq_true rfl) dL_law_918 (fun r4_ M5_ q6_ => ?_)
  obtain ⟨hI2_, hF2_, -, hs2_⟩ := q6_
  have e2_ : (mgD M5_ M2_).1 = M5_.1 := mgD_self hF2_ SD_X12_head
  have hI9_ : Inv (mgD M5_ M2_) := mgD_I hI1_
  have hD9_ : InvD (mgD M5_ M2_) := mgD_D hI2_
  have st_ := st_18 hR hD hF1_ hs1_ hF2_ hs2_
  refine wl_pop X dL_law_921 ?_
  refine wl_goto X (tgt := 1731) dL_law_922 (by decide) ?_
  exact hend _ hI9_ hD9_ (by rw [e2_]; exact st_.1)
set_option maxHeartbeats 4000000 in
set_option maxRecDepth 100000 in
theorem law_case_19 {p : Program} {l : Launch} {e : Env} {s : State} {m : MethodId} {below : List Frame} {meth : Method} {c : Code} {b L : Nat} {xs : Nat → Int32} {A : Nat → Prop} {G : va_G} {cy : Nat → ClassId} {ad : rf → Nat} {ce sl : Nat} {Z : State → Prop} (X : LX p s m c b L xs A G cy ad ce sl) {i : Int32} {M : mM} (hI : Inv M) (hD : InvD M) (hR : RXz M.1) (hi : 0 ≤ i.toInt ∧ i.toInt + 6 ≤ (L : Int)) (hend : ∀ M' : mM, Inv M' → InvD M' → RXz M'.1 → WL p l e s m below meth c b A G cy ad ce sl Z 1731 [(3, vI i), (0, vR (94, 0, 0)), (1, vR (11, 0, 0)), (2, vR (12, 0, 0))] [] M') : WL p l e s m below meth c b A G cy ad ce sl Z 925 [(3, vI i), (0, vR (94, 0, 0)), (1, vR (11, 0, 0)), (2, vR (12, 0, 0))] [] M := by
  refine wl_aload_n X dL_law_925 rfl 2 rfl ?_
  refine wl_arg X 1 hi (by decide) (v := 1) (by decide) (ki := 1) (by decide) 1 0 rfl rfl dL_law_926 dL_law_927 dL_law_928 dL_law_929 dL_law_930 ?_
  refine wl_arg X 2 hi (by decide) (v := 2) (by decide) (ki := 2) (by decide) 1 0 rfl rfl dL_law_931 dL_law_932 dL_law_933 dL_law_934 dL_law_935 ?_
  refine wl_callC X (as := [vI (xs (i.toInt.toNat + 1)), vI (xs (i.toInt.toNat + 2))]) (rest := []) (c_X11_heads l G cy ad 0 (xs (i.toInt.toNat + 1)) (xs (i.toInt.toNat + 2)) M hI) kV_X11_heads pnn_0 (Nat.le_of_ble_eq_true rfl) m_933 rfl rfl rfl (by decide) (Nat.le_of_ble_eq_true rfl) (Nat.le_of_ble_eq_true rfl) dL_law_936 (fun r1_ M2_ q3_ => ?_)
  obtain ⟨hI1_, hF1_, -, hs1_⟩ := q3_
  have e1_ : mgC M2_ M = M2_ := mgC_self hF1_ SC_X11_heads
  rw [e1_]
  have hD1_ : InvD M2_ := e1_ ▸ mgC_D (M' := M2_) hD
  refine wl_pop X dL_law_939 ?_
  refine wl_aload_n X dL_law_940 rfl 3 rfl ?_
  refine wl_arg X 1 hi (by decide) (v := 1) (by decide) (ki := 1) (by decide) 1 0 rfl rfl dL_law_941 dL_law_942 dL_law_943 dL_law_944 dL_law_945 ?_
  refine wl_arg X 2 hi (by decide) (v := 2) (by decide) (ki := 2) (by decide) 1 0 rfl rfl dL_law_946 dL_law_947 dL_law_948 dL_law_949 dL_law_950 ?_
  refine wl_callD X (as := [vI (xs (i.toInt.toNat + 1)), vI (xs (i.toInt.toNat + 2))]) (rest := []) (c_X12_heads l G cy ad 0 (xs (i.toInt.toNat + 1)) (xs (i.toInt.toNat + 2)) M2_ hD1_) kV_X12_heads pnn_17 (Nat.le_of_ble_eq_true rfl) m_1699 rfl rfl rfl (by decide) (Nat.le_of_ble_eq_true rfl) (Nat.le_of_ble_eq_true rfl) dL_law_951 (fun r4_ M5_ q6_ => ?_)
  obtain ⟨hI2_, hF2_, -, hs2_⟩ := q6_
  have e2_ : (mgD M5_ M2_).1 = M5_.1 := mgD_self hF2_ SD_X12_heads
  have hI9_ : Inv (mgD M5_ M2_) := mgD_I hI1_
  have hD9_ : InvD (mgD M5_ M2_) := mgD_D hI2_
  have st_ := st_19 hR hD hF1_ hs1_ hF2_ hs2_
  refine wl_pop X dL_law_954 ?_
  refine wl_goto X (tgt := 1731) dL_law_955 (by decide) ?_
  exact hend _ hI9_ hD9_ (by rw [e2_]; exact st_.1)
end
section
set_option maxHeartbeats 4000000 in
set_option maxRecDepth 100000 in
theorem law_case_20 {p : Program} {l : Launch} {e : Env} {s : State} {m : MethodId} {below : List Frame} {meth : Method} {c : Code} {b L : Nat} {xs : Nat → Int32} {A : Nat → Prop} {G : va_G} {cy : Nat → ClassId} {ad : rf → Nat} {ce sl : Nat} {Z : State → Prop} (X : LX p s m c b L xs A G cy ad ce sl) {i : Int32} {M : mM} (hI : Inv M) (hD : InvD M) (hR : RXz M.1) (hi : 0 ≤ i.toInt ∧ i.toInt + 6 ≤ (L : Int)) (hend : ∀ M' : mM, Inv M' → InvD M' → RXz M'.1 → WL p l e s m below meth c b A G cy ad ce sl Z 1731 [(3, vI i), (0, vR (94, 0, 0)), (1, vR (11, 0, 0)), (2, vR (12, 0, 0))] [] M') : WL p l e s m below meth c b A G cy ad ce sl Z 958 [(3, vI i), (0, vR (94, 0, 0)), (1, vR (11, 0, 0)), (2, vR (12, 0, 0))] [] M := by
  refine wl_aload_n X dL_law_958 rfl 2 rfl ?_
  refine wl_arg X 1 hi (by decide) (v := 1) (by decide) (ki := 1) (by decide) 1 0 rfl rfl dL_law_959 dL_law_960 dL_law_961 dL_law_962 dL_law_963 ?_
  refine wl_arg X 2 hi (by decide) (v := 2) (by decide) (ki := 2) (by decide) 1 0 rfl rfl dL_law_964 dL_law_965 dL_law_966 dL_law_967 dL_law_968 ?_
  refine wl_arg X 3 hi (by decide) (v := 3) (by decide) (ki := 3) (by decide) 1 0 rfl rfl dL_law_969 dL_law_970 dL_law_971 dL_law_972 dL_law_973 ?_
  refine wl_arg X 4 hi (by decide) (v := 4) (by decide) (ki := 4) (by decide) 1 0 rfl rfl dL_law_974 dL_law_975 dL_law_976 dL_law_977 dL_law_978 ?_
  refine wl_arg X 5 hi (by decide) (v := 5) (by decide) (ki := 5) (by decide) 1 0 rfl rfl dL_law_979 dL_law_980 dL_law_981 dL_law_982 dL_law_983 ?_
  refine wl_callC X (as := [vI (xs (i.toInt.toNat + 1)), vI (xs (i.toInt.toNat + 2)), vI (xs (i.toInt.toNat + 3)), vI (xs (i.toInt.toNat + 4)), vI (xs (i.toInt.toNat + 5))]) (rest := []) (c_X11_alike l G cy ad 0 (xs (i.toInt.toNat + 1)) (xs (i.toInt.toNat + 2)) (xs (i.toInt.toNat + 3)) (xs (i.toInt.toNat + 4)) (xs (i.toInt.toNat + 5)) M hI) kV_X11_alike pnn_0 (Nat.le_of_ble_eq_true rfl) m_947 rfl rfl rfl (by decide) (Nat.le_of_ble_eq_true rfl) (Nat.le_of_ble_eq_true rfl) dL_law_984 (fun r1_ M2_ q3_ => ?_)
  obtain ⟨hI1_, hF1_, -, hs1_⟩ := q3_
  have e1_ : mgC M2_ M = M2_ := mgC_self hF1_ SC_X11_alike
  rw [e1_]
  have hD1_ : InvD M2_ := e1_ ▸ mgC_D (M' := M2_) hD
  refine wl_pop X dL_law_987 ?_
  refine wl_aload_n X dL_law_988 rfl 3 rfl ?_
  refine wl_arg X 1 hi (by decide) (v := 1) (by decide) (ki := 1) (by decide) 1 0 rfl rfl dL_law_989 dL_law_990 dL_law_991 dL_law_992 dL_law_993 ?_
  refine wl_arg X 2 hi (by decide) (v := 2) (by decide) (ki := 2) (by decide) 1 0 rfl rfl dL_law_994 dL_law_995 dL_law_996 dL_law_997 dL_law_998 ?_
  refine wl_arg X 3 hi (by decide) (v := 3) (by decide) (ki := 3) (by decide) 1 0 rfl rfl dL_law_999 dL_law_1000 dL_law_1001 dL_law_1002 dL_law_1003 ?_
  refine wl_arg X 4 hi (by decide) (v := 4) (by decide) (ki := 4) (by decide) 1 0 rfl rfl dL_law_1004 dL_law_1005 dL_law_1006 dL_law_1007 dL_law_1008 ?_
  refine wl_arg X 5 hi (by decide) (v := 5) (by decide) (ki := 5) (by decide) 1 0 rfl rfl dL_law_1009 dL_law_1010 dL_law_1011 dL_law_1012 dL_law_1013 ?_
  refine wl_callD X (as := [vI (xs (i.toInt.toNat + 1)), vI (xs (i.toInt.toNat + 2)), vI (xs (i.toInt.toNat + 3)), vI (xs (i.toInt.toNat + 4)), vI (xs (i.toInt.toNat + 5))]) (rest := []) (c_X12_alike l G cy ad 0 (xs (i.toInt.toNat + 1)) (xs (i.toInt.toNat + 2)) (xs (i.toInt.toNat + 3)) (xs (i.toInt.toNat + 4)) (xs (i.toInt.toNat + 5)) M2_ hD1_) kV_X12_alike pnn_17 (Nat.le_of_ble_eq_true rfl) m_1703 rfl rfl rfl (by decide) (Nat.le_of_ble_eq_true rfl) (Nat.le_of_ble_eq_true rfl) dL_law_1014 (fun r4_ M5_ q6_ => ?_)
  obtain ⟨hI2_, hF2_, -, hs2_⟩ := q6_
  have e2_ : (mgD M5_ M2_).1 = M5_.1 := mgD_self hF2_ SD_X12_alike
  have hI9_ : Inv (mgD M5_ M2_) := mgD_I hI1_
  have hD9_ : InvD (mgD M5_ M2_) := mgD_D hI2_
  have st_ := st_20 hR hD hF1_ hs1_ hF2_ hs2_
  refine wl_pop X dL_law_1017 ?_
  refine wl_goto X (tgt := 1731) dL_law_1018 (by decide) ?_
  exact hend _ hI9_ hD9_ (by rw [e2_]; exact st_.1)
set_option maxHeartbeats 4000000 in
set_option maxRecDepth 100000 in
theorem law_case_21 {p : Program} {l : Launch} {e : Env} {s : State} {m : MethodId} {below : List Frame} {meth : Method} {c : Code} {b L : Nat} {xs : Nat → Int32} {A : Nat → Prop} {G : va_G} {cy : Nat → ClassId} {ad : rf → Nat} {ce sl : Nat} {Z : State → Prop} (X : LX p s m c b L xs A G cy ad ce sl) {i : Int32} {M : mM} (hI : Inv M) (hD : InvD M) (hR : RXz M.1) (hi : 0 ≤ i.toInt ∧ i.toInt + 6 ≤ (L : Int)) (hend : ∀ M' : mM, Inv M' → InvD M' → RXz M'.1 → WL p l e s m below meth c b A G cy ad ce sl Z 1731 [(3, vI i), (0, vR (94, 0, 0)), (1, vR (11, 0, 0)), (2, vR (12, 0, 0))] [] M') : WL p l e s m below meth c b A G cy ad ce sl Z 1021 [(3, vI i), (0, vR (94, 0, 0)), (1, vR (11, 0, 0)), (2, vR (12, 0, 0))] [] M := by
  refine wl_aload_n X dL_law_1021 rfl 2 rfl ?_
  refine wl_arg X 1 hi (by decide) (v := 1) (by decide) (ki := 1) (by decide) 1 0 rfl rfl dL_law_1022 dL_law_1023 dL_law_1024 dL_law_1025 dL_law_1026 ?_
  refine wl_arg X 2 hi (by decide) (v := 2) (by decide) (ki := 2) (by decide) 1 0 rfl rfl dL_law_1027 dL_law_1028 dL_law_1029 dL_law_1030 dL_law_1031 ?_
  refine wl_arg X 3 hi (by decide) (v := 3) (by decide) (ki := 3) (by decide) 1 0 rfl rfl dL_law_1032 dL_law_1033 dL_law_1034 dL_law_1035 dL_law_1036 ?_
  refine wl_arg X 4 hi (by decide) (v := 4) (by decide) (ki := 4) (by decide) 1 0 rfl rfl dL_law_1037 dL_law_1038 dL_law_1039 dL_law_1040 dL_law_1041 ?_
  refine wl_callC X (as := [vI (xs (i.toInt.toNat + 1)), vI (xs (i.toInt.toNat + 2)), vI (xs (i.toInt.toNat + 3)), vI (xs (i.toInt.toNat + 4))]) (rest := []) (c_X11_least l G cy ad 0 (xs (i.toInt.toNat + 1)) (xs (i.toInt.toNat + 2)) (xs (i.toInt.toNat + 3)) (xs (i.toInt.toNat + 4)) M hI) kV_X11_least pnn_0 (Nat.le_of_ble_eq_true rfl) m_957 rfl rfl rfl (by decide) (Nat.le_of_ble_eq_true rfl) (Nat.le_of_ble_eq_true rfl) dL_law_1042 (fun r1_ M2_ q3_ => ?_)
  obtain ⟨hI1_, hF1_, -, hs1_⟩ := q3_
  have e1_ : mgC M2_ M = M2_ := mgC_self hF1_ SC_X11_least
  rw [e1_]
  have hD1_ : InvD M2_ := e1_ ▸ mgC_D (M' := M2_) hD
  refine wl_pop X dL_law_1045 ?_
  refine wl_aload_n X dL_law_1046 rfl 3 rfl ?_
  refine wl_arg X 1 hi (by decide) (v := 1) (by decide) (ki := 1) (by decide) 1 0 rfl rfl dL_law_1047 dL_law_1048 dL_law_1049 dL_law_1050 dL_law_1051 ?_
  refine wl_arg X 2 hi (by decide) (v := 2) (by decide) (ki := 2) (by decide) 1 0 rfl rfl dL_law_1052 dL_law_1053 dL_law_1054 dL_law_1055 dL_law_1056 ?_
  refine wl_arg X 3 hi (by decide) (v := 3) (by decide) (ki := 3) (by decide) 1 0 rfl rfl dL_law_1057 dL_law_1058 dL_law_1059 dL_law_1060 dL_law_1061 ?_
  refine wl_arg X 4 hi (by decide) (v := 4) (by decide) (ki := 4) (by decide) 1 0 rfl rfl dL_law_1062 dL_law_1063 dL_law_1064 dL_law_1065 dL_law_1066 ?_
  refine wl_callD X (as := [vI (xs (i.toInt.toNat + 1)), vI (xs (i.toInt.toNat + 2)), vI (xs (i.toInt.toNat + 3)), vI (xs (i.toInt.toNat + 4))]) (rest := []) (c_X12_least l G cy ad 0 (xs (i.toInt.toNat + 1)) (xs (i.toInt.toNat + 2)) (xs (i.toInt.toNat + 3)) (xs (i.toInt.toNat + 4)) M2_ hD1_) kV_X12_least pnn_17 (Nat.le_of_ble_eq_true rfl) m_1707 rfl rfl rfl (by decide) (Nat.le_of_ble_eq_true rfl) (Nat.le_of_ble_eq_true rfl) dL_law_1067 (fun r4_ M5_ q6_ => ?_)
  obtain ⟨hI2_, hF2_, -, hs2_⟩ := q6_
  have e2_ : (mgD M5_ M2_).1 = M5_.1 := mgD_self hF2_ SD_X12_least
  have hI9_ : Inv (mgD M5_ M2_) := mgD_I hI1_
  have hD9_ : InvD (mgD M5_ M2_) := mgD_D hI2_
  have st_ := st_21 hR hD hF1_ hs1_ hF2_ hs2_
  refine wl_pop X dL_law_1070 ?_
  refine wl_goto X (tgt := 1731) dL_law_1071 (by decide) ?_
  exact hend _ hI9_ hD9_ (by rw [e2_]; exact st_.1)
set_option maxHeartbeats 4000000 in
set_option maxRecDepth 100000 in
theorem law_case_22 {p : Program} {l : Launch} {e : Env} {s : State} {m : MethodId} {below : List Frame} {meth : Method} {c : Code} {b L : Nat} {xs : Nat → Int32} {A : Nat → Prop} {G : va_G} {cy : Nat → ClassId} {ad : rf → Nat} {ce sl : Nat} {Z : State → Prop} (X : LX p s m c b L xs A G cy ad ce sl) {i : Int32} {M : mM} (hI : Inv M) (hD : InvD M) (hR : RXz M.1) (hi : 0 ≤ i.toInt ∧ i.toInt + 6 ≤ (L : Int)) (hend : ∀ M' : mM, Inv M' → InvD M' → RXz M'.1 → WL p l e s m below meth c b A G cy ad ce sl Z 1731 [(3, vI i), (0, vR (94, 0, 0)), (1, vR (11, 0, 0)), (2, vR (12, 0, 0))] [] M') : WL p l e s m below meth c b A G cy ad ce sl Z 1074 [(3, vI i), (0, vR (94, 0, 0)), (1, vR (11, 0, 0)), (2, vR (12, 0, 0))] [] M := by
  refine wl_aload_n X dL_law_1074 rfl 2 rfl ?_
  refine wl_arg X 1 hi (by decide) (v := 1) (by decide) (ki := 1) (by decide) 1 0 rfl rfl dL_law_1075 dL_law_1076 dL_law_1077 dL_law_1078 dL_law_1079 ?_
  refine wl_arg X 2 hi (by decide) (v := 2) (by decide) (ki := 2) (by decide) 1 0 rfl rfl dL_law_1080 dL_law_1081 dL_law_1082 dL_law_1083 dL_law_1084 ?_
  refine wl_arg X 3 hi (by decide) (v := 3) (by decide) (ki := 3) (by decide) 1 0 rfl rfl dL_law_1085 dL_law_1086 dL_law_1087 dL_law_1088 dL_law_1089 ?_
  refine wl_callC X (as := [vI (xs (i.toInt.toNat + 1)), vI (xs (i.toInt.toNat + 2)), vI (xs (i.toInt.toNat + 3))]) (rest := []) (c_X11_farthest l G cy ad 0 (xs (i.toInt.toNat + 1)) (xs (i.toInt.toNat + 2)) (xs (i.toInt.toNat + 3)) M hI) kV_X11_farthest pnn_0 (Nat.le_of_ble_eq_true rfl) m_969 rfl rfl rfl (by decide) (Nat.le_of_ble_eq_true rfl) (Nat.le_of_ble_eq_true rfl) dL_law_1090 (fun r1_ M2_ q3_ => ?_)
  obtain ⟨hI1_, hF1_, -, hs1_⟩ := q3_
  have e1_ : mgC M2_ M = M2_ := mgC_self hF1_ SC_X11_farthest
  rw [e1_]
  have hD1_ : InvD M2_ := e1_ ▸ mgC_D (M' := M2_) hD
  refine wl_pop X dL_law_1093 ?_
  refine wl_aload_n X dL_law_1094 rfl 3 rfl ?_
  refine wl_arg X 1 hi (by decide) (v := 1) (by decide) (ki := 1) (by decide) 1 0 rfl rfl dL_law_1095 dL_law_1096 dL_law_1097 dL_law_1098 dL_law_1099 ?_
  refine wl_arg X 2 hi (by decide) (v := 2) (by decide) (ki := 2) (by decide) 1 0 rfl rfl dL_law_1100 dL_law_1101 dL_law_1102 dL_law_1103 dL_law_1104 ?_
  refine wl_arg X 3 hi (by decide) (v := 3) (by decide) (ki := 3) (by decide) 1 0 rfl rfl dL_law_1105 dL_law_1106 dL_law_1107 dL_law_1108 dL_law_1109 ?_
  refine wl_callD X (as := [vI (xs (i.toInt.toNat + 1)), vI (xs (i.toInt.toNat + 2)), vI (xs (i.toInt.toNat + 3))]) (rest := []) (c_X12_farthest l G cy ad 0 (xs (i.toInt.toNat + 1)) (xs (i.toInt.toNat + 2)) (xs (i.toInt.toNat + 3)) M2_ hD1_) kV_X12_farthest pnn_17 (Nat.le_of_ble_eq_true rfl) m_1711 rfl rfl rfl (by decide) (Nat.le_of_ble_eq_true rfl) (Nat.le_of_ble_eq_true rfl) dL_law_1110 (fun r4_ M5_ q6_ => ?_)
  obtain ⟨hI2_, hF2_, -, hs2_⟩ := q6_
  have e2_ : (mgD M5_ M2_).1 = M5_.1 := mgD_self hF2_ SD_X12_farthest
  have hI9_ : Inv (mgD M5_ M2_) := mgD_I hI1_
  have hD9_ : InvD (mgD M5_ M2_) := mgD_D hI2_
  have st_ := st_22 hR hD hF1_ hs1_ hF2_ hs2_
  refine wl_pop X dL_law_1113 ?_
  refine wl_goto X (tgt := 1731) dL_law_1114 (by decide) ?_
  exact hend _ hI9_ hD9_ (by rw [e2_]; exact st_.1)
set_option maxHeartbeats 4000000 in
set_option maxRecDepth 100000 in
theorem law_case_23 {p : Program} {l : Launch} {e : Env} {s : State} {m : MethodId} {below : List Frame} {meth : Method} {c : Code} {b L : Nat} {xs : Nat → Int32} {A : Nat → Prop} {G : va_G} {cy : Nat → ClassId} {ad : rf → Nat} {ce sl : Nat} {Z : State → Prop} (X : LX p s m c b L xs A G cy ad ce sl) {i : Int32} {M : mM} (hI : Inv M) (hD : InvD M) (hR : RXz M.1) (hi : 0 ≤ i.toInt ∧ i.toInt + 6 ≤ (L : Int)) (hend : ∀ M' : mM, Inv M' → InvD M' → RXz M'.1 → WL p l e s m below meth c b A G cy ad ce sl Z 1731 [(3, vI i), (0, vR (94, 0, 0)), (1, vR (11, 0, 0)), (2, vR (12, 0, 0))] [] M') : WL p l e s m below meth c b A G cy ad ce sl Z 1117 [(3, vI i), (0, vR (94, 0, 0)), (1, vR (11, 0, 0)), (2, vR (12, 0, 0))] [] M := by
  refine wl_aload_n X dL_law_1117 rfl 2 rfl ?_
  refine wl_arg X 1 hi (by decide) (v := 1) (by decide) (ki := 1) (by decide) 1 0 rfl rfl dL_law_1118 dL_law_1119 dL_law_1120 dL_law_1121 dL_law_1122 ?_
  refine wl_arg X 2 hi (by decide) (v := 2) (by decide) (ki := 2) (by decide) 1 0 rfl rfl dL_law_1123 dL_law_1124 dL_law_1125 dL_law_1126 dL_law_1127 ?_
  refine wl_arg X 3 hi (by decide) (v := 3) (by decide) (ki := 3) (by decide) 1 0 rfl rfl dL_law_1128 dL_law_1129 dL_law_1130 dL_law_1131 dL_law_1132 ?_
  refine wl_arg X 4 hi (by decide) (v := 4) (by decide) (ki := 4) (by decide) 1 0 rfl rfl dL_law_1133 dL_law_1134 dL_law_1135 dL_law_1136 dL_law_1137 ?_
  refine wl_callC X (as := [vI (xs (i.toInt.toNat + 1)), vI (xs (i.toInt.toNat + 2)), vI (xs (i.toInt.toNat + 3)), vI (xs (i.toInt.toNat + 4))]) (rest := []) (c_X11_spots l G cy ad 0 (xs (i.toInt.toNat + 1)) (xs (i.toInt.toNat + 2)) (xs (i.toInt.toNat + 3)) (xs (i.toInt.toNat + 4)) M hI) kV_X11_spots pnn_0 (Nat.le_of_ble_eq_true rfl) m_974 rfl rfl rfl (by decide) (Nat.le_of_ble_eq_true rfl) (Nat.le_of_ble_eq_true rfl) dL_law_1138 (fun r1_ M2_ q3_ => ?_)
  obtain ⟨hI1_, hF1_, -, hs1_⟩ := q3_
  have e1_ : mgC M2_ M = M2_ := mgC_self hF1_ SC_X11_spots
  rw [e1_]
  have hD1_ : InvD M2_ := e1_ ▸ mgC_D (M' := M2_) hD
  refine wl_pop X dL_law_1141 ?_
  refine wl_aload_n X dL_law_1142 rfl 3 rfl ?_
  refine wl_arg X 1 hi (by decide) (v := 1) (by decide) (ki := 1) (by decide) 1 0 rfl rfl dL_law_1143 dL_law_1144 dL_law_1145 dL_law_1146 dL_law_1147 ?_
  refine wl_arg X 2 hi (by decide) (v := 2) (by decide) (ki := 2) (by decide) 1 0 rfl rfl dL_law_1148 dL_law_1149 dL_law_1150 dL_law_1151 dL_law_1152 ?_
  refine wl_arg X 3 hi (by decide) (v := 3) (by decide) (ki := 3) (by decide) 1 0 rfl rfl dL_law_1153 dL_law_1154 dL_law_1155 dL_law_1156 dL_law_1157 ?_
  refine wl_arg X 4 hi (by decide) (v := 4) (by decide) (ki := 4) (by decide) 1 0 rfl rfl dL_law_1158 dL_law_1159 dL_law_1160 dL_law_1161 dL_law_1162 ?_
  refine wl_callD X (as := [vI (xs (i.toInt.toNat + 1)), vI (xs (i.toInt.toNat + 2)), vI (xs (i.toInt.toNat + 3)), vI (xs (i.toInt.toNat + 4))]) (rest := []) (c_X12_spots l G cy ad 0 (xs (i.toInt.toNat + 1)) (xs (i.toInt.toNat + 2)) (xs (i.toInt.toNat + 3)) (xs (i.toInt.toNat + 4)) M2_ hD1_) kV_X12_spots pnn_17 (Nat.le_of_ble_eq_true rfl) m_1715 rfl rfl rfl (by decide) (Nat.le_of_ble_eq_true rfl) (Nat.le_of_ble_eq_true rfl) dL_law_1163 (fun r4_ M5_ q6_ => ?_)
  obtain ⟨hI2_, hF2_, -, hs2_⟩ := q6_
  have e2_ : (mgD M5_ M2_).1 = M5_.1 := mgD_self hF2_ SD_X12_spots
  have hI9_ : Inv (mgD M5_ M2_) := mgD_I hI1_
  have hD9_ : InvD (mgD M5_ M2_) := mgD_D hI2_
  have st_ := st_23 hR hD hF1_ hs1_ hF2_ hs2_
  refine wl_pop X dL_law_1166 ?_
  refine wl_goto X (tgt := 1731) dL_law_1167 (by decide) ?_
  exact hend _ hI9_ hD9_ (by rw [e2_]; exact st_.1)
set_option maxHeartbeats 4000000 in
set_option maxRecDepth 100000 in
theorem law_case_24 {p : Program} {l : Launch} {e : Env} {s : State} {m : MethodId} {below : List Frame} {meth : Method} {c : Code} {b L : Nat} {xs : Nat → Int32} {A : Nat → Prop} {G : va_G} {cy : Nat → ClassId} {ad : rf → Nat} {ce sl : Nat} {Z : State → Prop} (X : LX p s m c b L xs A G cy ad ce sl) {i : Int32} {M : mM} (hI : Inv M) (hD : InvD M) (hR : RXz M.1) (hi : 0 ≤ i.toInt ∧ i.toInt + 6 ≤ (L : Int)) (hend : ∀ M' : mM, Inv M' → InvD M' → RXz M'.1 → WL p l e s m below meth c b A G cy ad ce sl Z 1731 [(3, vI i), (0, vR (94, 0, 0)), (1, vR (11, 0, 0)), (2, vR (12, 0, 0))] [] M') : WL p l e s m below meth c b A G cy ad ce sl Z 1170 [(3, vI i), (0, vR (94, 0, 0)), (1, vR (11, 0, 0)), (2, vR (12, 0, 0))] [] M := by
  refine wl_aload_n X dL_law_1170 rfl 2 rfl ?_
  refine wl_arg X 1 hi (by decide) (v := 1) (by decide) (ki := 1) (by decide) 1 0 rfl rfl dL_law_1171 dL_law_1172 dL_law_1173 dL_law_1174 dL_law_1175 ?_
  refine wl_callC X (as := [vI (xs (i.toInt.toNat + 1))]) (rest := []) (c_X11_tenths l G cy ad 0 (xs (i.toInt.toNat + 1)) M hI) kV_X11_tenths pnn_0 (Nat.le_of_ble_eq_true rfl) m_1021 rfl rfl rfl (by decide) (Nat.le_of_ble_eq_true rfl) (Nat.le_of_ble_eq_true rfl) dL_law_1176 (fun r1_ M2_ q3_ => ?_)
  obtain ⟨hI1_, hF1_, -, hs1_⟩ := q3_
  have e1_ : mgC M2_ M = M2_ := mgC_self hF1_ SC_X11_tenths
  rw [e1_]
  have hD1_ : InvD M2_ := e1_ ▸ mgC_D (M' := M2_) hD
  refine wl_pop X dL_law_1179 ?_
  refine wl_aload_n X dL_law_1180 rfl 3 rfl ?_
  refine wl_arg X 1 hi (by decide) (v := 1) (by decide) (ki := 1) (by decide) 1 0 rfl rfl dL_law_1181 dL_law_1182 dL_law_1183 dL_law_1184 dL_law_1185 ?_
  refine wl_callD X (as := [vI (xs (i.toInt.toNat + 1))]) (rest := []) (c_X12_tenths l G cy ad 0 (xs (i.toInt.toNat + 1)) M2_ hD1_) kV_X12_tenths pnn_17 (Nat.le_of_ble_eq_true rfl) m_1734 rfl rfl rfl (by decide) (Nat.le_of_ble_eq_true rfl) (Nat.le_of_ble_eq_true rfl) dL_law_1186 (fun r4_ M5_ q6_ => ?_)
  obtain ⟨hI2_, hF2_, -, hs2_⟩ := q6_
  have e2_ : (mgD M5_ M2_).1 = M5_.1 := mgD_self hF2_ SD_X12_tenths
  have hI9_ : Inv (mgD M5_ M2_) := mgD_I hI1_
  have hD9_ : InvD (mgD M5_ M2_) := mgD_D hI2_
  have st_ := st_24 hR hD hF1_ hs1_ hF2_ hs2_
  refine wl_pop X dL_law_1189 ?_
  refine wl_goto X (tgt := 1731) dL_law_1190 (by decide) ?_
  exact hend _ hI9_ hD9_ (by rw [e2_]; exact st_.1)
set_option maxHeartbeats 4000000 in
set_option maxRecDepth 100000 in
theorem law_case_25 {p : Program} {l : Launch} {e : Env} {s : State} {m : MethodId} {below : List Frame} {meth : Method} {c : Code} {b L : Nat} {xs : Nat → Int32} {A : Nat → Prop} {G : va_G} {cy : Nat → ClassId} {ad : rf → Nat} {ce sl : Nat} {Z : State → Prop} (X : LX p s m c b L xs A G cy ad ce sl) {i : Int32} {M : mM} (hI : Inv M) (hD : InvD M) (hR : RXz M.1) (hi : 0 ≤ i.toInt ∧ i.toInt + 6 ≤ (L : Int)) (hend : ∀ M' : mM, Inv M' → InvD M' → RXz M'.1 → WL p l e s m below meth c b A G cy ad ce sl Z 1731 [(3, vI i), (0, vR (94, 0, 0)), (1, vR (11, 0, 0)), (2, vR (12, 0, 0))] [] M') : WL p l e s m below meth c b A G cy ad ce sl Z 1193 [(3, vI i), (0, vR (94, 0, 0)), (1, vR (11, 0, 0)), (2, vR (12, 0, 0))] [] M := by
  refine wl_aload_n X dL_law_1193 rfl 2 rfl ?_
  refine wl_arg X 1 hi (by decide) (v := 1) (by decide) (ki := 1) (by decide) 1 0 rfl rfl dL_law_1194 dL_law_1195 dL_law_1196 dL_law_1197 dL_law_1198 ?_
  refine wl_arg X 2 hi (by decide) (v := 2) (by decide) (ki := 2) (by decide) 1 0 rfl rfl dL_law_1199 dL_law_1200 dL_law_1201 dL_law_1202 dL_law_1203 ?_
  refine wl_arg X 3 hi (by decide) (v := 3) (by decide) (ki := 3) (by decide) 1 0 rfl rfl dL_law_1204 dL_law_1205 dL_law_1206 dL_law_1207 dL_law_1208 ?_
  refine wl_callC X (as := [vI (xs (i.toInt.toNat + 1)), vI (xs (i.toInt.toNat + 2)), vI (xs (i.toInt.toNat + 3))]) (rest := []) (c_X11_way l G cy ad 0 (xs (i.toInt.toNat + 1)) (xs (i.toInt.toNat + 2)) (xs (i.toInt.toNat + 3)) M hI) kV_X11_way pnn_0 (Nat.le_of_ble_eq_true rfl) m_1067 rfl rfl rfl (by decide) (Nat.le_of_ble_eq_true rfl) (Nat.le_of_ble_eq_true rfl) dL_law_1209 (fun r1_ M2_ q3_ => ?_)
  obtain ⟨hI1_, hF1_, -, hs1_⟩ := q3_
  have e1_ : mgC M2_ M = M2_ := mgC_self hF1_ SC_X11_way
  rw [e1_]
  have hD1_ : InvD M2_ := e1_ ▸ mgC_D (M' := M2_) hD
  refine wl_pop X dL_law_1212 ?_
  refine wl_aload_n X dL_law_1213 rfl 3 rfl ?_
  refine wl_arg X 1 hi (by decide) (v := 1) (by decide) (ki := 1) (by decide) 1 0 rfl rfl dL_law_1214 dL_law_1215 dL_law_1216 dL_law_1217 dL_law_1218 ?_
  refine wl_arg X 2 hi (by decide) (v := 2) (by decide) (ki := 2) (by decide) 1 0 rfl rfl dL_law_1219 dL_law_1220 dL_law_1221 dL_law_1222 dL_law_1223 ?_
  refine wl_arg X 3 hi (by decide) (v := 3) (by decide) (ki := 3) (by decide) 1 0 rfl rfl dL_law_1224 dL_law_1225 dL_law_1226 dL_law_1227 dL_law_1228 ?_
  refine wl_callD X (as := [vI (xs (i.toInt.toNat + 1)), vI (xs (i.toInt.toNat + 2)), vI (xs (i.toInt.toNat + 3))]) (rest := []) (c_X12_way l G cy ad 0 (xs (i.toInt.toNat + 1)) (xs (i.toInt.toNat + 2)) (xs (i.toInt.toNat + 3)) M2_ hD1_) kV_X12_way pnn_17 (Nat.le_of_ble_eq_true rfl) m_1762 rfl rfl rfl (by decide) (Nat.le_of_ble_eq_true rfl) (Nat.le_of_ble_eq_true rfl) dL_law_1229 (fun r4_ M5_ q6_ => ?_)
  obtain ⟨hI2_, hF2_, -, hs2_⟩ := q6_
  have e2_ : (mgD M5_ M2_).1 = M5_.1 := mgD_self hF2_ SD_X12_way
  have hI9_ : Inv (mgD M5_ M2_) := mgD_I hI1_
  have hD9_ : InvD (mgD M5_ M2_) := mgD_D hI2_
  have st_ := st_25 hR hD hF1_ hs1_ hF2_ hs2_
  refine wl_pop X dL_law_1232 ?_
  refine wl_goto X (tgt := 1731) dL_law_1233 (by decide) ?_
  exact hend _ hI9_ hD9_ (by rw [e2_]; exact st_.1)
set_option maxHeartbeats 4000000 in
set_option maxRecDepth 100000 in
theorem law_case_26 {p : Program} {l : Launch} {e : Env} {s : State} {m : MethodId} {below : List Frame} {meth : Method} {c : Code} {b L : Nat} {xs : Nat → Int32} {A : Nat → Prop} {G : va_G} {cy : Nat → ClassId} {ad : rf → Nat} {ce sl : Nat} {Z : State → Prop} (X : LX p s m c b L xs A G cy ad ce sl) {i : Int32} {M : mM} (hI : Inv M) (hD : InvD M) (hR : RXz M.1) (hi : 0 ≤ i.toInt ∧ i.toInt + 6 ≤ (L : Int)) (hend : ∀ M' : mM, Inv M' → InvD M' → RXz M'.1 → WL p l e s m below meth c b A G cy ad ce sl Z 1731 [(3, vI i), (0, vR (94, 0, 0)), (1, vR (11, 0, 0)), (2, vR (12, 0, 0))] [] M') : WL p l e s m below meth c b A G cy ad ce sl Z 1236 [(3, vI i), (0, vR (94, 0, 0)), (1, vR (11, 0, 0)), (2, vR (12, 0, 0))] [] M := by
  refine wl_aload_n X dL_law_1236 rfl 2 rfl ?_
  refine wl_arg X 1 hi (by decide) (v := 1) (by decide) (ki := 1) (by decide) 1 0 rfl rfl dL_law_1237 dL_law_1238 dL_law_1239 dL_law_1240 dL_law_1241 ?_
  refine wl_callC X (as := [vI (xs (i.toInt.toNat + 1))]) (rest := []) (c_X11_safe l G cy ad 0 (xs (i.toInt.toNat + 1)) M hI) kV_X11_safe pnn_0 (Nat.le_of_ble_eq_true rfl) m_1098 rfl rfl rfl (by decide) (Nat.le_of_ble_eq_true rfl) (Nat.le_of_ble_eq_true rfl) dL_law_1242 (fun r1_ M2_ q3_ => ?_)
  obtain ⟨hI1_, hF1_, -, hs1_⟩ := q3_
  have e1_ : mgC M2_ M = M2_ := mgC_self hF1_ SC_X11_safe
  rw [e1_]
  have hD1_ : InvD M2_ := e1_ ▸ mgC_D (M' := M2_) hD
  refine wl_pop X dL_law_1245 ?_
  refine wl_aload_n X dL_law_1246 rfl 3 rfl ?_
  refine wl_arg X 1 hi (by decide) (v := 1) (by decide) (ki := 1) (by decide) 1 0 rfl rfl dL_law_1247 dL_law_1248 dL_law_1249 dL_law_1250 dL_law_1251 ?_
  refine wl_callD X (as := [vI (xs (i.toInt.toNat + 1))]) (rest := []) (c_X12_safe l G cy ad 0 (xs (i.toInt.toNat + 1)) M2_ hD1_) kV_X12_safe pnn_17 (Nat.le_of_ble_eq_true rfl) m_1775 rfl rfl rfl (by decide) (Nat.le_of_ble_eq_true rfl) (Nat.le_of_ble_eq_true rfl) dL_law_1252 (fun r4_ M5_ q6_ => ?_)
  obtain ⟨hI2_, hF2_, -, hs2_⟩ := q6_
  have e2_ : (mgD M5_ M2_).1 = M5_.1 := mgD_self hF2_ SD_X12_safe
  have hI9_ : Inv (mgD M5_ M2_) := mgD_I hI1_
  have hD9_ : InvD (mgD M5_ M2_) := mgD_D hI2_
  have st_ := st_26 hR hD hF1_ hs1_ hF2_ hs2_
  refine wl_pop X dL_law_1255 ?_
  refine wl_goto X (tgt := 1731) dL_law_1256 (by decide) ?_
  exact hend _ hI9_ hD9_ (by rw [e2_]; exact st_.1)
set_option maxHeartbeats 4000000 in
set_option maxRecDepth 100000 in
theorem law_case_27 {p : Program} {l : Launch} {e : Env} {s : State} {m : MethodId} {below : List Frame} {meth : Method} {c : Code} {b L : Nat} {xs : Nat → Int32} {A : Nat → Prop} {G : va_G} {cy : Nat → ClassId} {ad : rf → Nat} {ce sl : Nat} {Z : State → Prop} (X : LX p s m c b L xs A G cy ad ce sl) {i : Int32} {M : mM} (hI : Inv M) (hD : InvD M) (hR : RXz M.1) (hi : 0 ≤ i.toInt ∧ i.toInt + 6 ≤ (L : Int)) (hend : ∀ M' : mM, Inv M' → InvD M' → RXz M'.1 → WL p l e s m below meth c b A G cy ad ce sl Z 1731 [(3, vI i), (0, vR (94, 0, 0)), (1, vR (11, 0, 0)), (2, vR (12, 0, 0))] [] M') : WL p l e s m below meth c b A G cy ad ce sl Z 1259 [(3, vI i), (0, vR (94, 0, 0)), (1, vR (11, 0, 0)), (2, vR (12, 0, 0))] [] M := by
  refine wl_aload_n X dL_law_1259 rfl 2 rfl ?_
  refine wl_arg X 1 hi (by decide) (v := 1) (by decide) (ki := 1) (by decide) 1 0 rfl rfl dL_law_1260 dL_law_1261 dL_law_1262 dL_law_1263 dL_law_1264 ?_
  refine wl_arg X 2 hi (by decide) (v := 2) (by decide) (ki := 2) (by decide) 1 0 rfl rfl dL_law_1265 dL_law_1266 dL_law_1267 dL_law_1268 dL_law_1269 ?_
  refine wl_arg X 3 hi (by decide) (v := 3) (by decide) (ki := 3) (by decide) 1 0 rfl rfl dL_law_1270 dL_law_1271 dL_law_1272 dL_law_1273 dL_law_1274 ?_
  refine wl_callC X (as := [vI (xs (i.toInt.toNat + 1)), vI (xs (i.toInt.toNat + 2)), vI (xs (i.toInt.toNat + 3))]) (rest := []) (c_X11_lesson l G cy ad 0 (xs (i.toInt.toNat + 1)) (xs (i.toInt.toNat + 2)) (xs (i.toInt.toNat + 3)) M hI) kV_X11_lesson pnn_0 (Nat.le_of_ble_eq_true rfl) m_1110 rfl rfl rfl (by decide) (Nat.le_of_ble_eq_true rfl) (Nat.le_of_ble_eq_true rfl) dL_law_1275 (fun r1_ M2_ q3_ => ?_)
  obtain ⟨hI1_, hF1_, -, hs1_⟩ := q3_
  have e1_ : mgC M2_ M = M2_ := mgC_self hF1_ SC_X11_lesson
  rw [e1_]
  have hD1_ : InvD M2_ := e1_ ▸ mgC_D (M' := M2_) hD
  refine wl_pop X dL_law_1278 ?_
  refine wl_aload_n X dL_law_1279 rfl 3 rfl ?_
  refine wl_arg X 1 hi (by decide) (v := 1) (by decide) (ki := 1) (by decide) 1 0 rfl rfl dL_law_1280 dL_law_1281 dL_law_1282 dL_law_1283 dL_law_1284 ?_
  refine wl_arg X 2 hi (by decide) (v := 2) (by decide) (ki := 2) (by decide) 1 0 rfl rfl dL_law_1285 dL_law_1286 dL_law_1287 dL_law_1288 dL_law_1289 ?_
  refine wl_arg X 3 hi (by decide) (v := 3) (by decide) (ki := 3) (by decide) 1 0 rfl rfl dL_law_1290 dL_law_1291 dL_law_1292 dL_law_1293 dL_law_1294 ?_
  refine wl_callD X (as := [vI (xs (i.toInt.toNat + 1)), vI (xs (i.toInt.toNat + 2)), vI (xs (i.toInt.toNat + 3))]) (rest := []) (c_X12_lesson l G cy ad 0 (xs (i.toInt.toNat + 1)) (xs (i.toInt.toNat + 2)) (xs (i.toInt.toNat + 3)) M2_ hD1_) kV_X12_lesson pnn_17 (Nat.le_of_ble_eq_true rfl) m_1779 rfl rfl rfl (by decide) (Nat.le_of_ble_eq_true rfl) (Nat.le_of_ble_eq_true rfl) dL_law_1295 (fun r4_ M5_ q6_ => ?_)
  obtain ⟨hI2_, hF2_, -, hs2_⟩ := q6_
  have e2_ : (mgD M5_ M2_).1 = M5_.1 := mgD_self hF2_ SD_X12_lesson
  have hI9_ : Inv (mgD M5_ M2_) := mgD_I hI1_
  have hD9_ : InvD (mgD M5_ M2_) := mgD_D hI2_
  have st_ := st_27 hR hD hF1_ hs1_ hF2_ hs2_
  refine wl_pop X dL_law_1298 ?_
  refine wl_goto X (tgt := 1731) dL_law_1299 (by decide) ?_
  exact hend _ hI9_ hD9_ (by rw [e2_]; exact st_.1)
set_option maxHeartbeats 4000000 in
set_option maxRecDepth 100000 in
theorem law_case_28 {p : Program} {l : Launch} {e : Env} {s : State} {m : MethodId} {below : List Frame} {meth : Method} {c : Code} {b L : Nat} {xs : Nat → Int32} {A : Nat → Prop} {G : va_G} {cy : Nat → ClassId} {ad : rf → Nat} {ce sl : Nat} {Z : State → Prop} (X : LX p s m c b L xs A G cy ad ce sl) {i : Int32} {M : mM} (hI : Inv M) (hD : InvD M) (hR : RXz M.1) (hi : 0 ≤ i.toInt ∧ i.toInt + 6 ≤ (L : Int)) (hend : ∀ M' : mM, Inv M' → InvD M' → RXz M'.1 → WL p l e s m below meth c b A G cy ad ce sl Z 1731 [(3, vI i), (0, vR (94, 0, 0)), (1, vR (11, 0, 0)), (2, vR (12, 0, 0))] [] M') : WL p l e s m below meth c b A G cy ad ce sl Z 1302 [(3, vI i), (0, vR (94, 0, 0)), (1, vR (11, 0, 0)), (2, vR (12, 0, 0))] [] M := by
  refine wl_aload_n X dL_law_1302 rfl 2 rfl ?_
  refine wl_arg X 1 hi (by decide) (v := 1) (by decide) (ki := 1) (by decide) 1 0 rfl rfl dL_law_1303 dL_law_1304 dL_law_1305 dL_law_1306 dL_law_1307 ?_
  refine wl_arg X 2 hi (by decide) (v := 2) (by decide) (ki := 2) (by decide) 1 0 rfl rfl dL_law_1308 dL_law_1309 dL_law_1310 dL_law_1311 dL_law_1312 ?_
  refine wl_arg X 3 hi (by decide) (v := 3) (by decide) (ki := 3) (by decide) 1 0 rfl rfl dL_law_1313 dL_law_1314 dL_law_1315 dL_law_1316 dL_law_1317 ?_
  refine wl_callC X (as := [vI (xs (i.toInt.toNat + 1)), vI (xs (i.toInt.toNat + 2)), vI (xs (i.toInt.toNat + 3))]) (rest := []) (c_X11_learn l G cy ad 0 (xs (i.toInt.toNat + 1)) (xs (i.toInt.toNat + 2)) (xs (i.toInt.toNat + 3)) M hI) kV_X11_learn pnn_0 (Nat.le_of_ble_eq_true rfl) m_1125 rfl rfl rfl (by decide) (Nat.le_of_ble_eq_true rfl) (Nat.le_of_ble_eq_true rfl) dL_law_1318 (fun r1_ M2_ q3_ => ?_)
  obtain ⟨hI1_, hF1_, -, hs1_⟩ := q3_
  have e1_ : mgC M2_ M = M2_ := mgC_self hF1_ SC_X11_learn
  rw [e1_]
  have hD1_ : InvD M2_ := e1_ ▸ mgC_D (M' := M2_) hD
  refine wl_pop X dL_law_1321 ?_
  refine wl_aload_n X dL_law_1322 rfl 3 rfl ?_
  refine wl_arg X 1 hi (by decide) (v := 1) (by decide) (ki := 1) (by decide) 1 0 rfl rfl dL_law_1323 dL_law_1324 dL_law_1325 dL_law_1326 dL_law_1327 ?_
  refine wl_arg X 2 hi (by decide) (v := 2) (by decide) (ki := 2) (by decide) 1 0 rfl rfl dL_law_1328 dL_law_1329 dL_law_1330 dL_law_1331 dL_law_1332 ?_
  refine wl_arg X 3 hi (by decide) (v := 3) (by decide) (ki := 3) (by decide) 1 0 rfl rfl dL_law_1333 dL_law_1334 dL_law_1335 dL_law_1336 dL_law_1337 ?_
  refine wl_callD X (as := [vI (xs (i.toInt.toNat + 1)), vI (xs (i.toInt.toNat + 2)), vI (xs (i.toInt.toNat + 3))]) (rest := []) (c_X12_learn l G cy ad 0 (xs (i.toInt.toNat + 1)) (xs (i.toInt.toNat + 2)) (xs (i.toInt.toNat + 3)) M2_ hD1_) kV_X12_learn pnn_17 (Nat.le_of_ble_eq_true rfl) m_1783 rfl rfl rfl (by decide) (Nat.le_of_ble_eq_true rfl) (Nat.le_of_ble_eq_true rfl) dL_law_1338 (fun r4_ M5_ q6_ => ?_)
  obtain ⟨hI2_, hF2_, -, hs2_⟩ := q6_
  have e2_ : (mgD M5_ M2_).1 = M5_.1 := mgD_self hF2_ SD_X12_learn
  have hI9_ : Inv (mgD M5_ M2_) := mgD_I hI1_
  have hD9_ : InvD (mgD M5_ M2_) := mgD_D hI2_
  have st_ := st_28 hR hD hF1_ hs1_ hF2_ hs2_
  refine wl_pop X dL_law_1341 ?_
  refine wl_goto X (tgt := 1731) dL_law_1342 (by decide) ?_
  exact hend _ hI9_ hD9_ (by rw [e2_]; exact st_.1)
set_option maxHeartbeats 4000000 in
set_option maxRecDepth 100000 in
theorem law_case_29 {p : Program} {l : Launch} {e : Env} {s : State} {m : MethodId} {below : List Frame} {meth : Method} {c : Code} {b L : Nat} {xs : Nat → Int32} {A : Nat → Prop} {G : va_G} {cy : Nat → ClassId} {ad : rf → Nat} {ce sl : Nat} {Z : State → Prop} (X : LX p s m c b L xs A G cy ad ce sl) {i : Int32} {M : mM} (hI : Inv M) (hD : InvD M) (hR : RXz M.1) (hi : 0 ≤ i.toInt ∧ i.toInt + 6 ≤ (L : Int)) (hend : ∀ M' : mM, Inv M' → InvD M' → RXz M'.1 → WL p l e s m below meth c b A G cy ad ce sl Z 1731 [(3, vI i), (0, vR (94, 0, 0)), (1, vR (11, 0, 0)), (2, vR (12, 0, 0))] [] M') : WL p l e s m below meth c b A G cy ad ce sl Z 1345 [(3, vI i), (0, vR (94, 0, 0)), (1, vR (11, 0, 0)), (2, vR (12, 0, 0))] [] M := by
  refine wl_aload_n X dL_law_1345 rfl 2 rfl ?_
  refine wl_arg X 1 hi (by decide) (v := 1) (by decide) (ki := 1) (by decide) 1 0 rfl rfl dL_law_1346 dL_law_1347 dL_law_1348 dL_law_1349 dL_law_1350 ?_
  refine wl_arg X 2 hi (by decide) (v := 2) (by decide) (ki := 2) (by decide) 1 0 rfl rfl dL_law_1351 dL_law_1352 dL_law_1353 dL_law_1354 dL_law_1355 ?_
  refine wl_arg X 3 hi (by decide) (v := 3) (by decide) (ki := 3) (by decide) 1 0 rfl rfl dL_law_1356 dL_law_1357 dL_law_1358 dL_law_1359 dL_law_1360 ?_
  refine wl_arg X 4 hi (by decide) (v := 4) (by decide) (ki := 4) (by decide) 1 0 rfl rfl dL_law_1361 dL_law_1362 dL_law_1363 dL_law_1364 dL_law_1365 ?_
  refine wl_callC X (as := [vI (xs (i.toInt.toNat + 1)), vI (xs (i.toInt.toNat + 2)), vI (xs (i.toInt.toNat + 3)), vI (xs (i.toInt.toNat + 4))]) (rest := []) (c_X11_posts l G cy ad 0 (xs (i.toInt.toNat + 1)) (xs (i.toInt.toNat + 2)) (xs (i.toInt.toNat + 3)) (xs (i.toInt.toNat + 4)) M hI) kV_X11_posts pnn_0 (Nat.le_of_ble_eq_true rfl) m_1155 rfl rfl rfl (by decide) (Nat.le_of_ble_eq_true rfl) (Nat.le_of_ble_eq_true rfl) dL_law_1366 (fun r1_ M2_ q3_ => ?_)
  obtain ⟨hI1_, hF1_, -, hs1_⟩ := q3_
  have e1_ : mgC M2_ M = M2_ := mgC_self hF1_ SC_X11_posts
  rw [e1_]
  have hD1_ : InvD M2_ := e1_ ▸ mgC_D (M' := M2_) hD
  refine wl_pop X dL_law_1369 ?_
  refine wl_aload_n X dL_law_1370 rfl 3 rfl ?_
  refine wl_arg X 1 hi (by decide) (v := 1) (by decide) (ki := 1) (by decide) 1 0 rfl rfl dL_law_1371 dL_law_1372 dL_law_1373 dL_law_1374 dL_law_1375 ?_
  refine wl_arg X 2 hi (by decide) (v := 2) (by decide) (ki := 2) (by decide) 1 0 rfl rfl dL_law_1376 dL_law_1377 dL_law_1378 dL_law_1379 dL_law_1380 ?_
  refine wl_arg X 3 hi (by decide) (v := 3) (by decide) (ki := 3) (by decide) 1 0 rfl rfl dL_law_1381 dL_law_1382 dL_law_1383 dL_law_1384 dL_law_1385 ?_
  refine wl_arg X 4 hi (by decide) (v := 4) (by decide) (ki := 4) (by decide) 1 0 rfl rfl dL_law_1386 dL_law_1387 dL_law_1388 dL_law_1389 dL_law_1390 ?_
  refine wl_callD X (as := [vI (xs (i.toInt.toNat + 1)), vI (xs (i.toInt.toNat + 2)), vI (xs (i.toInt.toNat + 3)), vI (xs (i.toInt.toNat + 4))]) (rest := []) (c_X12_posts l G cy ad 0 (xs (i.toInt.toNat + 1)) (xs (i.toInt.toNat + 2)) (xs (i.toInt.toNat + 3)) (xs (i.toInt.toNat + 4)) M2_ hD1_) kV_X12_posts pnn_17 (Nat.le_of_ble_eq_true rfl) m_1791 rfl rfl rfl (by decide) (Nat.le_of_ble_eq_true rfl) (Nat.le_of_ble_eq_true rfl) dL_law_1391 (fun r4_ M5_ q6_ => ?_)
  obtain ⟨hI2_, hF2_, -, hs2_⟩ := q6_
  have e2_ : (mgD M5_ M2_).1 = M5_.1 := mgD_self hF2_ SD_X12_posts
  have hI9_ : Inv (mgD M5_ M2_) := mgD_I hI1_
  have hD9_ : InvD (mgD M5_ M2_) := mgD_D hI2_
  have st_ := st_29 hR hD hF1_ hs1_ hF2_ hs2_
  refine wl_pop X dL_law_1394 ?_
  refine wl_goto X (tgt := 1731) dL_law_1395 (by decide) ?_
  exact hend _ hI9_ hD9_ (by rw [e2_]; exact st_.1)
set_option maxHeartbeats 4000000 in
set_option maxRecDepth 100000 in
theorem law_case_30 {p : Program} {l : Launch} {e : Env} {s : State} {m : MethodId} {below : List Frame} {meth : Method} {c : Code} {b L : Nat} {xs : Nat → Int32} {A : Nat → Prop} {G : va_G} {cy : Nat → ClassId} {ad : rf → Nat} {ce sl : Nat} {Z : State → Prop} (X : LX p s m c b L xs A G cy ad ce sl) {i : Int32} {M : mM} (hI : Inv M) (hD : InvD M) (hR : RXz M.1) (hi : 0 ≤ i.toInt ∧ i.toInt + 6 ≤ (L : Int)) (hend : ∀ M' : mM, Inv M' → InvD M' → RXz M'.1 → WL p l e s m below meth c b A G cy ad ce sl Z 1731 [(3, vI i), (0, vR (94, 0, 0)), (1, vR (11, 0, 0)), (2, vR (12, 0, 0))] [] M') : WL p l e s m below meth c b A G cy ad ce sl Z 1398 [(3, vI i), (0, vR (94, 0, 0)), (1, vR (11, 0, 0)), (2, vR (12, 0, 0))] [] M := by
  refine wl_aload_n X dL_law_1398 rfl 2 rfl ?_
  refine wl_arg X 1 hi (by decide) (v := 1) (by decide) (ki := 1) (by decide) 1 0 rfl rfl dL_law_1399 dL_law_1400 dL_law_1401 dL_law_1402 dL_law_1403 ?_
  refine wl_arg X 2 hi (by decide) (v := 2) (by decide) (ki := 2) (by decide) 1 0 rfl rfl dL_law_1404 dL_law_1405 dL_law_1406 dL_law_1407 dL_law_1408 ?_
  refine wl_arg X 3 hi (by decide) (v := 3) (by decide) (ki := 3) (by decide) 1 0 rfl rfl dL_law_1409 dL_law_1410 dL_law_1411 dL_law_1412 dL_law_1413 ?_
  refine wl_callC X (as := [vI (xs (i.toInt.toNat + 1)), vI (xs (i.toInt.toNat + 2)), vI (xs (i.toInt.toNat + 3))]) (rest := []) (c_X11_voice l G cy ad 0 (xs (i.toInt.toNat + 1)) (xs (i.toInt.toNat + 2)) (xs (i.toInt.toNat + 3)) M hI) kV_X11_voice pnn_0 (Nat.le_of_ble_eq_true rfl) m_1176 rfl rfl rfl (by decide) (Nat.le_of_ble_eq_true rfl) (Nat.le_of_ble_eq_true rfl) dL_law_1414 (fun r1_ M2_ q3_ => ?_)
  obtain ⟨hI1_, hF1_, -, hs1_⟩ := q3_
  have e1_ : mgC M2_ M = M2_ := mgC_self hF1_ SC_X11_voice
  rw [e1_]
  have hD1_ : InvD M2_ := e1_ ▸ mgC_D (M' := M2_) hD
  refine wl_pop X dL_law_1417 ?_
  refine wl_aload_n X dL_law_1418 rfl 3 rfl ?_
  refine wl_arg X 1 hi (by decide) (v := 1) (by decide) (ki := 1) (by decide) 1 0 rfl rfl dL_law_1419 dL_law_1420 dL_law_1421 dL_law_1422 dL_law_1423 ?_
  refine wl_arg X 2 hi (by decide) (v := 2) (by decide) (ki := 2) (by decide) 1 0 rfl rfl dL_law_1424 dL_law_1425 dL_law_1426 dL_law_1427 dL_law_1428 ?_
  refine wl_arg X 3 hi (by decide) (v := 3) (by decide) (ki := 3) (by decide) 1 0 rfl rfl dL_law_1429 dL_law_1430 dL_law_1431 dL_law_1432 dL_law_1433 ?_
  refine wl_callD X (as := [vI (xs (i.toInt.toNat + 1)), vI (xs (i.toInt.toNat + 2)), vI (xs (i.toInt.toNat + 3))]) (rest := []) (c_X12_voice l G cy ad 0 (xs (i.toInt.toNat + 1)) (xs (i.toInt.toNat + 2)) (xs (i.toInt.toNat + 3)) M2_ hD1_) kV_X12_voice pnn_17 (Nat.le_of_ble_eq_true rfl) m_1799 rfl rfl rfl (by decide) (Nat.le_of_ble_eq_true rfl) (Nat.le_of_ble_eq_true rfl) dL_law_1434 (fun r4_ M5_ q6_ => ?_)
  obtain ⟨hI2_, hF2_, -, hs2_⟩ := q6_
  have e2_ : (mgD M5_ M2_).1 = M5_.1 := mgD_self hF2_ SD_X12_voice
  have hI9_ : Inv (mgD M5_ M2_) := mgD_I hI1_
  have hD9_ : InvD (mgD M5_ M2_) := mgD_D hI2_
  have st_ := st_30 hR hD hF1_ hs1_ hF2_ hs2_
  refine wl_pop X dL_law_1437 ?_
  refine wl_goto X (tgt := 1731) dL_law_1438 (by decide) ?_
  exact hend _ hI9_ hD9_ (by rw [e2_]; exact st_.1)
set_option maxHeartbeats 4000000 in
set_option maxRecDepth 100000 in
theorem law_case_31 {p : Program} {l : Launch} {e : Env} {s : State} {m : MethodId} {below : List Frame} {meth : Method} {c : Code} {b L : Nat} {xs : Nat → Int32} {A : Nat → Prop} {G : va_G} {cy : Nat → ClassId} {ad : rf → Nat} {ce sl : Nat} {Z : State → Prop} (X : LX p s m c b L xs A G cy ad ce sl) {i : Int32} {M : mM} (hI : Inv M) (hD : InvD M) (hR : RXz M.1) (hi : 0 ≤ i.toInt ∧ i.toInt + 6 ≤ (L : Int)) (hend : ∀ M' : mM, Inv M' → InvD M' → RXz M'.1 → WL p l e s m below meth c b A G cy ad ce sl Z 1731 [(3, vI i), (0, vR (94, 0, 0)), (1, vR (11, 0, 0)), (2, vR (12, 0, 0))] [] M') : WL p l e s m below meth c b A G cy ad ce sl Z 1441 [(3, vI i), (0, vR (94, 0, 0)), (1, vR (11, 0, 0)), (2, vR (12, 0, 0))] [] M := by
  refine wl_aload_n X dL_law_1441 rfl 2 rfl ?_
  refine wl_arg X 1 hi (by decide) (v := 1) (by decide) (ki := 1) (by decide) 1 0 rfl rfl dL_law_1442 dL_law_1443 dL_law_1444 dL_law_1445 dL_law_1446 ?_
  refine wl_callC X (as := [vI (xs (i.toInt.toNat + 1))]) (rest := []) (c_X11_trace l G cy ad 0 (xs (i.toInt.toNat + 1)) M hI) kV_X11_trace pnn_0 (Nat.le_of_ble_eq_true rfl) m_1210 rfl rfl rfl (by decide) (Nat.le_of_ble_eq_true rfl) (Nat.le_of_ble_eq_true rfl) dL_law_1447 (fun r1_ M2_ q3_ => ?_)
  obtain ⟨hI1_, hF1_, -, hs1_⟩ := q3_
  have e1_ : mgC M2_ M = M2_ := mgC_self hF1_ SC_X11_trace
  rw [e1_]
  have hD1_ : InvD M2_ := e1_ ▸ mgC_D (M' := M2_) hD
  refine wl_pop X dL_law_1450 ?_
  refine wl_aload_n X dL_law_1451 rfl 3 rfl ?_
  refine wl_arg X 1 hi (by decide) (v := 1) (by decide) (ki := 1) (by decide) 1 0 rfl rfl dL_law_1452 dL_law_1453 dL_law_1454 dL_law_1455 dL_law_1456 ?_
  refine wl_callD X (as := [vI (xs (i.toInt.toNat + 1))]) (rest := []) (c_X12_trace l G cy ad 0 (xs (i.toInt.toNat + 1)) M2_ hD1_) kV_X12_trace pnn_17 (Nat.le_of_ble_eq_true rfl) m_1823 rfl rfl rfl (by decide) (Nat.le_of_ble_eq_true rfl) (Nat.le_of_ble_eq_true rfl) dL_law_1457 (fun r4_ M5_ q6_ => ?_)
  obtain ⟨hI2_, hF2_, -, hs2_⟩ := q6_
  have e2_ : (mgD M5_ M2_).1 = M5_.1 := mgD_self hF2_ SD_X12_trace
  have hI9_ : Inv (mgD M5_ M2_) := mgD_I hI1_
  have hD9_ : InvD (mgD M5_ M2_) := mgD_D hI2_
  have st_ := st_31 hR hD hF1_ hs1_ hF2_ hs2_
  refine wl_pop X dL_law_1460 ?_
  refine wl_goto X (tgt := 1731) dL_law_1461 (by decide) ?_
  exact hend _ hI9_ hD9_ (by rw [e2_]; exact st_.1)
set_option maxHeartbeats 4000000 in
set_option maxRecDepth 100000 in
theorem law_case_32 {p : Program} {l : Launch} {e : Env} {s : State} {m : MethodId} {below : List Frame} {meth : Method} {c : Code} {b L : Nat} {xs : Nat → Int32} {A : Nat → Prop} {G : va_G} {cy : Nat → ClassId} {ad : rf → Nat} {ce sl : Nat} {Z : State → Prop} (X : LX p s m c b L xs A G cy ad ce sl) {i : Int32} {M : mM} (hI : Inv M) (hD : InvD M) (hR : RXz M.1) (hi : 0 ≤ i.toInt ∧ i.toInt + 6 ≤ (L : Int)) (hend : ∀ M' : mM, Inv M' → InvD M' → RXz M'.1 → WL p l e s m below meth c b A G cy ad ce sl Z 1731 [(3, vI i), (0, vR (94, 0, 0)), (1, vR (11, 0, 0)), (2, vR (12, 0, 0))] [] M') : WL p l e s m below meth c b A G cy ad ce sl Z 1464 [(3, vI i), (0, vR (94, 0, 0)), (1, vR (11, 0, 0)), (2, vR (12, 0, 0))] [] M := by
  refine wl_aload_n X dL_law_1464 rfl 2 rfl ?_
  refine wl_arg X 1 hi (by decide) (v := 1) (by decide) (ki := 1) (by decide) 1 0 rfl rfl dL_law_1465 dL_law_1466 dL_law_1467 dL_law_1468 dL_law_1469 ?_
  refine wl_arg X 2 hi (by decide) (v := 2) (by decide) (ki := 2) (by decide) 1 0 rfl rfl dL_law_1470 dL_law_1471 dL_law_1472 dL_law_1473 dL_law_1474 ?_
  refine wl_arg X 3 hi (by decide) (v := 3) (by decide) (ki := 3) (by decide) 1 0 rfl rfl dL_law_1475 dL_law_1476 dL_law_1477 dL_law_1478 dL_law_1479 ?_
  refine wl_callC X (as := [vI (xs (i.toInt.toNat + 1)), vI (xs (i.toInt.toNat + 2)), vI (xs (i.toInt.toNat + 3))]) (rest := []) (c_X11_sheet l G cy ad 0 (xs (i.toInt.toNat + 1)) (xs (i.toInt.toNat + 2)) (xs (i.toInt.toNat + 3)) M hI) kV_X11_sheet pnn_0 (Nat.le_of_ble_eq_true rfl) m_1218 rfl rfl rfl (by decide) (Nat.le_of_ble_eq_true rfl) (Nat.le_of_ble_eq_true rfl) dL_law_1480 (fun r1_ M2_ q3_ => ?_)
  obtain ⟨hI1_, hF1_, -, hs1_⟩ := q3_
  have e1_ : mgC M2_ M = M2_ := mgC_self hF1_ SC_X11_sheet
  rw [e1_]
  have hD1_ : InvD M2_ := e1_ ▸ mgC_D (M' := M2_) hD
  refine wl_pop X dL_law_1483 ?_
  refine wl_aload_n X dL_law_1484 rfl 3 rfl ?_
  refine wl_arg X 1 hi (by decide) (v := 1) (by decide) (ki := 1) (by decide) 1 0 rfl rfl dL_law_1485 dL_law_1486 dL_law_1487 dL_law_1488 dL_law_1489 ?_
  refine wl_arg X 2 hi (by decide) (v := 2) (by decide) (ki := 2) (by decide) 1 0 rfl rfl dL_law_1490 dL_law_1491 dL_law_1492 dL_law_1493 dL_law_1494 ?_
  refine wl_arg X 3 hi (by decide) (v := 3) (by decide) (ki := 3) (by decide) 1 0 rfl rfl dL_law_1495 dL_law_1496 dL_law_1497 dL_law_1498 dL_law_1499 ?_
  refine wl_callD X (as := [vI (xs (i.toInt.toNat + 1)), vI (xs (i.toInt.toNat + 2)), vI (xs (i.toInt.toNat + 3))]) (rest := []) (c_X12_sheet l G cy ad 0 (xs (i.toInt.toNat + 1)) (xs (i.toInt.toNat + 2)) (xs (i.toInt.toNat + 3)) M2_ hD1_) kV_X12_sheet pnn_17 (Nat.le_of_ble_eq_true rfl) m_1827 rfl rfl rfl (by decide) (Nat.le_of_ble_eq_true rfl) (Nat.le_of_ble_eq_true rfl) dL_law_1500 (fun r4_ M5_ q6_ => ?_)
  obtain ⟨hI2_, hF2_, -, hs2_⟩ := q6_
  have e2_ : (mgD M5_ M2_).1 = M5_.1 := mgD_self hF2_ SD_X12_sheet
  have hI9_ : Inv (mgD M5_ M2_) := mgD_I hI1_
  have hD9_ : InvD (mgD M5_ M2_) := mgD_D hI2_
  have st_ := st_32 hR hD hF1_ hs1_ hF2_ hs2_
  refine wl_pop X dL_law_1503 ?_
  refine wl_goto X (tgt := 1731) dL_law_1504 (by decide) ?_
  exact hend _ hI9_ hD9_ (by rw [e2_]; exact st_.1)
set_option maxHeartbeats 4000000 in
set_option maxRecDepth 100000 in
theorem law_case_33 {p : Program} {l : Launch} {e : Env} {s : State} {m : MethodId} {below : List Frame} {meth : Method} {c : Code} {b L : Nat} {xs : Nat → Int32} {A : Nat → Prop} {G : va_G} {cy : Nat → ClassId} {ad : rf → Nat} {ce sl : Nat} {Z : State → Prop} (X : LX p s m c b L xs A G cy ad ce sl) {i : Int32} {M : mM} (hI : Inv M) (hD : InvD M) (hR : RXz M.1) (hi : 0 ≤ i.toInt ∧ i.toInt + 6 ≤ (L : Int)) (hend : ∀ M' : mM, Inv M' → InvD M' → RXz M'.1 → WL p l e s m below meth c b A G cy ad ce sl Z 1731 [(3, vI i), (0, vR (94, 0, 0)), (1, vR (11, 0, 0)), (2, vR (12, 0, 0))] [] M') : WL p l e s m below meth c b A G cy ad ce sl Z 1507 [(3, vI i), (0, vR (94, 0, 0)), (1, vR (11, 0, 0)), (2, vR (12, 0, 0))] [] M := by
  refine wl_aload_n X dL_law_1507 rfl 2 rfl ?_
  refine wl_arg X 1 hi (by decide) (v := 1) (by decide) (ki := 1) (by decide) 1 0 rfl rfl dL_law_1508 dL_law_1509 dL_law_1510 dL_law_1511 dL_law_1512 ?_
  refine wl_arg X 2 hi (by decide) (v := 2) (by decide) (ki := 2) (by decide) 1 0 rfl rfl dL_law_1513 dL_law_1514 dL_law_1515 dL_law_1516 dL_law_1517 ?_
  refine wl_arg X 3 hi (by decide) (v := 3) (by decide) (ki := 3) (by decide) 1 0 rfl rfl dL_law_1518 dL_law_1519 dL_law_1520 dL_law_1521 dL_law_1522 ?_
  refine wl_callC X (as := [vI (xs (i.toInt.toNat + 1)), vI (xs (i.toInt.toNat + 2)), vI (xs (i.toInt.toNat + 3))]) (rest := []) (c_X11_put l G cy ad 0 (xs (i.toInt.toNat + 1)) (xs (i.toInt.toNat + 2)) (xs (i.toInt.toNat + 3)) M hI) kV_X11_put pnn_0 (Nat.le_of_ble_eq_true rfl) m_1232 rfl rfl rfl (by decide) (Nat.le_of_ble_eq_true rfl) (Nat.le_of_ble_eq_true rfl) dL_law_1523 (fun r1_ M2_ q3_ => ?_)
  obtain ⟨hI1_, hF1_, -, hs1_⟩ := q3_
  have e1_ : mgC M2_ M = M2_ := mgC_self hF1_ SC_X11_put
  rw [e1_]
  have hD1_ : InvD M2_ := e1_ ▸ mgC_D (M' := M2_) hD
  refine wl_pop X dL_law_1526 ?_
  refine wl_aload_n X dL_law_1527 rfl 3 rfl ?_
  refine wl_arg X 1 hi (by decide) (v := 1) (by decide) (ki := 1) (by decide) 1 0 rfl rfl dL_law_1528 dL_law_1529 dL_law_1530 dL_law_1531 dL_law_1532 ?_
  refine wl_arg X 2 hi (by decide) (v := 2) (by decide) (ki := 2) (by decide) 1 0 rfl rfl dL_law_1533 dL_law_1534 dL_law_1535 dL_law_1536 dL_law_1537 ?_
  refine wl_arg X 3 hi (by decide) (v := 3) (by decide) (ki := 3) (by decide) 1 0 rfl rfl dL_law_1538 dL_law_1539 dL_law_1540 dL_law_1541 dL_law_1542 ?_
  refine wl_callD X (as := [vI (xs (i.toInt.toNat + 1)), vI (xs (i.toInt.toNat + 2)), vI (xs (i.toInt.toNat + 3))]) (rest := []) (c_X12_put l G cy ad 0 (xs (i.toInt.toNat + 1)) (xs (i.toInt.toNat + 2)) (xs (i.toInt.toNat + 3)) M2_ hD1_) kV_X12_put pnn_17 (Nat.le_of_ble_eq_true rfl) m_1831 rfl rfl rfl (by decide) (Nat.le_of_ble_eq_true rfl) (Nat.le_of_ble_eq_true rfl) dL_law_1543 (fun r4_ M5_ q6_ => ?_)
  obtain ⟨hI2_, hF2_, -, hs2_⟩ := q6_
  have e2_ : (mgD M5_ M2_).1 = M5_.1 := mgD_self hF2_ SD_X12_put
  have hI9_ : Inv (mgD M5_ M2_) := mgD_I hI1_
  have hD9_ : InvD (mgD M5_ M2_) := mgD_D hI2_
  have st_ := st_33 hR hD hF1_ hs1_ hF2_ hs2_
  refine wl_pop X dL_law_1546 ?_
  refine wl_goto X (tgt := 1731) dL_law_1547 (by decide) ?_
  exact hend _ hI9_ hD9_ (by rw [e2_]; exact st_.1)
set_option maxHeartbeats 4000000 in
set_option maxRecDepth 100000 in
theorem law_case_34 {p : Program} {l : Launch} {e : Env} {s : State} {m : MethodId} {below : List Frame} {meth : Method} {c : Code} {b L : Nat} {xs : Nat → Int32} {A : Nat → Prop} {G : va_G} {cy : Nat → ClassId} {ad : rf → Nat} {ce sl : Nat} {Z : State → Prop} (X : LX p s m c b L xs A G cy ad ce sl) {i : Int32} {M : mM} (hI : Inv M) (hD : InvD M) (hR : RXz M.1) (hi : 0 ≤ i.toInt ∧ i.toInt + 6 ≤ (L : Int)) (hend : ∀ M' : mM, Inv M' → InvD M' → RXz M'.1 → WL p l e s m below meth c b A G cy ad ce sl Z 1731 [(3, vI i), (0, vR (94, 0, 0)), (1, vR (11, 0, 0)), (2, vR (12, 0, 0))] [] M') : WL p l e s m below meth c b A G cy ad ce sl Z 1550 [(3, vI i), (0, vR (94, 0, 0)), (1, vR (11, 0, 0)), (2, vR (12, 0, 0))] [] M := by
  refine wl_aload_n X dL_law_1550 rfl 2 rfl ?_
  refine wl_arg X 1 hi (by decide) (v := 1) (by decide) (ki := 1) (by decide) 1 0 rfl rfl dL_law_1551 dL_law_1552 dL_law_1553 dL_law_1554 dL_law_1555 ?_
  refine wl_arg X 2 hi (by decide) (v := 2) (by decide) (ki := 2) (by decide) 1 0 rfl rfl dL_law_1556 dL_law_1557 dL_law_1558 dL_law_1559 dL_law_1560 ?_
  refine wl_arg X 3 hi (by decide) (v := 3) (by decide) (ki := 3) (by decide) 1 0 rfl rfl dL_law_1561 dL_law_1562 dL_law_1563 dL_law_1564 dL_law_1565 ?_
  refine wl_arg X 4 hi (by decide) (v := 4) (by decide) (ki := 4) (by decide) 1 0 rfl rfl dL_law_1566 dL_law_1567 dL_law_1568 dL_law_1569 dL_law_1570 ?_
  refine wl_arg X 5 hi (by decide) (v := 5) (by decide) (ki := 5) (by decide) 1 0 rfl rfl dL_law_1571 dL_law_1572 dL_law_1573 dL_law_1574 dL_law_1575 ?_
  refine wl_callC X (as := [vI (xs (i.toInt.toNat + 1)), vI (xs (i.toInt.toNat + 2)), vI (xs (i.toInt.toNat + 3)), vI (xs (i.toInt.toNat + 4)), vI (xs (i.toInt.toNat + 5))]) (rest := []) (c_X11_move l G cy ad 0 (xs (i.toInt.toNat + 1)) (xs (i.toInt.toNat + 2)) (xs (i.toInt.toNat + 3)) (xs (i.toInt.toNat + 4)) (xs (i.toInt.toNat + 5)) M hI) kV_X11_move pnn_0 (Nat.le_of_ble_eq_true rfl) m_1241 rfl rfl rfl (by decide) (Nat.le_of_ble_eq_true rfl) (Nat.le_of_ble_eq_true rfl) dL_law_1576 (fun r1_ M2_ q3_ => ?_)
  obtain ⟨hI1_, hF1_, -, hs1_⟩ := q3_
  have e1_ : mgC M2_ M = M2_ := mgC_self hF1_ SC_X11_move
  rw [e1_]
  have hD1_ : InvD M2_ := e1_ ▸ mgC_D (M' := M2_) hD
  refine wl_pop X dL_law_1579 ?_
  refine wl_aload_n X dL_law_1580 rfl 3 rfl ?_
  refine wl_arg X 1 hi (by decide) (v := 1) (by decide) (ki := 1) (by decide) 1 0 rfl rfl dL_law_1581 dL_law_1582 dL_law_1583 dL_law_1584 dL_law_1585 ?_
  refine wl_arg X 2 hi (by decide) (v := 2) (by decide) (ki := 2) (by decide) 1 0 rfl rfl dL_law_1586 dL_law_1587 dL_law_1588 dL_law_1589 dL_law_1590 ?_
  refine wl_arg X 3 hi (by decide) (v := 3) (by decide) (ki := 3) (by decide) 1 0 rfl rfl dL_law_1591 dL_law_1592 dL_law_1593 dL_law_1594 dL_law_1595 ?_
  refine wl_arg X 4 hi (by decide) (v := 4) (by decide) (ki := 4) (by decide) 1 0 rfl rfl dL_law_1596 dL_law_1597 dL_law_1598 dL_law_1599 dL_law_1600 ?_
  refine wl_arg X 5 hi (by decide) (v := 5) (by decide) (ki := 5) (by decide) 1 0 rfl rfl dL_law_1601 dL_law_1602 dL_law_1603 dL_law_1604 dL_law_1605 ?_
  refine wl_callD X (as := [vI (xs (i.toInt.toNat + 1)), vI (xs (i.toInt.toNat + 2)), vI (xs (i.toInt.toNat + 3)), vI (xs (i.toInt.toNat + 4)), vI (xs (i.toInt.toNat + 5))]) (rest := []) (c_X12_move l G cy ad 0 (xs (i.toInt.toNat + 1)) (xs (i.toInt.toNat + 2)) (xs (i.toInt.toNat + 3)) (xs (i.toInt.toNat + 4)) (xs (i.toInt.toNat + 5)) M2_ hD1_) kV_X12_move pnn_17 (Nat.le_of_ble_eq_true rfl) m_1835 rfl rfl rfl (by decide) (Nat.le_of_ble_eq_true rfl) (Nat.le_of_ble_eq_true rfl) dL_law_1606 (fun r4_ M5_ q6_ => ?_)
  obtain ⟨hI2_, hF2_, -, hs2_⟩ := q6_
  have e2_ : (mgD M5_ M2_).1 = M5_.1 := mgD_self hF2_ SD_X12_move
  have hI9_ : Inv (mgD M5_ M2_) := mgD_I hI1_
  have hD9_ : InvD (mgD M5_ M2_) := mgD_D hI2_
  have st_ := st_34 hR hD hF1_ hs1_ hF2_ hs2_
  refine wl_pop X dL_law_1609 ?_
  refine wl_goto X (tgt := 1731) dL_law_1610 (by decide) ?_
  exact hend _ hI9_ hD9_ (by rw [e2_]; exact st_.1)
set_option maxHeartbeats 4000000 in
set_option maxRecDepth 100000 in
theorem law_case_35 {p : Program} {l : Launch} {e : Env} {s : State} {m : MethodId} {below : List Frame} {meth : Method} {c : Code} {b L : Nat} {xs : Nat → Int32} {A : Nat → Prop} {G : va_G} {cy : Nat → ClassId} {ad : rf → Nat} {ce sl : Nat} {Z : State → Prop} (X : LX p s m c b L xs A G cy ad ce sl) {i : Int32} {M : mM} (hI : Inv M) (hD : InvD M) (hR : RXz M.1) (hi : 0 ≤ i.toInt ∧ i.toInt + 6 ≤ (L : Int)) (hend : ∀ M' : mM, Inv M' → InvD M' → RXz M'.1 → WL p l e s m below meth c b A G cy ad ce sl Z 1731 [(3, vI i), (0, vR (94, 0, 0)), (1, vR (11, 0, 0)), (2, vR (12, 0, 0))] [] M') : WL p l e s m below meth c b A G cy ad ce sl Z 1613 [(3, vI i), (0, vR (94, 0, 0)), (1, vR (11, 0, 0)), (2, vR (12, 0, 0))] [] M := by
  refine wl_aload_n X dL_law_1613 rfl 2 rfl ?_
  refine wl_callC X (as := []) (rest := []) (c_X11_image l G cy ad 0 M hI) kV_X11_image pnn_0 (Nat.le_of_ble_eq_true rfl) m_1250 rfl rfl rfl (by decide) (Nat.le_of_ble_eq_true rfl) (Nat.le_of_ble_eq_true rfl) dL_law_1614 (fun r1_ M2_ q3_ => ?_)
  obtain ⟨hI1_, hF1_, -, hs1_⟩ := q3_
  have e1_ : mgC M2_ M = M2_ := mgC_self hF1_ SC_X11_image
  rw [e1_]
  have hD1_ : InvD M2_ := e1_ ▸ mgC_D (M' := M2_) hD
  refine wl_pop X dL_law_1617 ?_
  refine wl_aload_n X dL_law_1618 rfl 3 rfl ?_
  refine wl_callD X (as := []) (rest := []) (c_X12_image l G cy ad 0 M2_ hD1_) kV_X12_image pnn_17 (Nat.le_of_ble_eq_true rfl) m_1839 rfl rfl rfl (by decide) (Nat.le_of_ble_eq_true rfl) (Nat.le_of_ble_eq_true rfl) dL_law_1619 (fun r4_ M5_ q6_ => ?_)
  obtain ⟨hI2_, hF2_, -, hs2_⟩ := q6_
  have e2_ : (mgD M5_ M2_).1 = M5_.1 := mgD_self hF2_ SD_X12_image
  have hI9_ : Inv (mgD M5_ M2_) := mgD_I hI1_
  have hD9_ : InvD (mgD M5_ M2_) := mgD_D hI2_
  have st_ := st_35 hR hD hF1_ hs1_ hF2_ hs2_
  refine wl_pop X dL_law_1622 ?_
  refine wl_goto X (tgt := 1731) dL_law_1623 (by decide) ?_
  exact hend _ hI9_ hD9_ (by rw [e2_]; exact st_.1)
set_option maxHeartbeats 4000000 in
set_option maxRecDepth 100000 in
theorem law_case_36 {p : Program} {l : Launch} {e : Env} {s : State} {m : MethodId} {below : List Frame} {meth : Method} {c : Code} {b L : Nat} {xs : Nat → Int32} {A : Nat → Prop} {G : va_G} {cy : Nat → ClassId} {ad : rf → Nat} {ce sl : Nat} {Z : State → Prop} (X : LX p s m c b L xs A G cy ad ce sl) {i : Int32} {M : mM} (hI : Inv M) (hD : InvD M) (hR : RXz M.1) (hi : 0 ≤ i.toInt ∧ i.toInt + 6 ≤ (L : Int)) (hend : ∀ M' : mM, Inv M' → InvD M' → RXz M'.1 → WL p l e s m below meth c b A G cy ad ce sl Z 1731 [(3, vI i), (0, vR (94, 0, 0)), (1, vR (11, 0, 0)), (2, vR (12, 0, 0))] [] M') : WL p l e s m below meth c b A G cy ad ce sl Z 1626 [(3, vI i), (0, vR (94, 0, 0)), (1, vR (11, 0, 0)), (2, vR (12, 0, 0))] [] M := by
  refine wl_aload_n X dL_law_1626 rfl 2 rfl ?_
  refine wl_callC X (as := []) (rest := []) (c_X11_restore l G cy ad 0 M hI) kV_X11_restore pnn_0 (Nat.le_of_ble_eq_true rfl) m_1280 rfl rfl rfl (by decide) (Nat.le_of_ble_eq_true rfl) (Nat.le_of_ble_eq_true rfl) dL_law_1627 (fun r1_ M2_ q3_ => ?_)
  obtain ⟨hI1_, hF1_, -, hs1_⟩ := q3_
  have e1_ : mgC M2_ M = M2_ := mgC_self hF1_ SC_X11_restore
  rw [e1_]
  have hD1_ : InvD M2_ := e1_ ▸ mgC_D (M' := M2_) hD
  refine wl_aload_n X dL_law_1630 rfl 3 rfl ?_
  refine wl_callD X (as := []) (rest := [vI r1_]) (c_X12_restore l G cy ad 0 M2_ hD1_) kV_X12_restore pnn_17 (Nat.le_of_ble_eq_true rfl) m_1846 rfl rfl rfl (by decide) (Nat.le_of_ble_eq_true rfl) (Nat.le_of_ble_eq_true rfl) dL_law_1631 (fun r4_ M5_ q6_ => ?_)
  obtain ⟨hI2_, hF2_, -, hs2_⟩ := q6_
  have e2_ : (mgD M5_ M2_).1 = M5_.1 := mgD_self hF2_ SD_X12_restore
  have hI9_ : Inv (mgD M5_ M2_) := mgD_I hI1_
  have hD9_ : InvD (mgD M5_ M2_) := mgD_D hI2_
  have st_ := st_36 hR hD hF1_ hs1_ hF2_ hs2_
  refine wl_icmp_eq X (tgt := 1731) dL_law_1634 (by decide) (congrArg Int32.toInt st_.2) ?_
  exact hend _ hI9_ hD9_ (by rw [e2_]; exact st_.1)
set_option maxHeartbeats 4000000 in
set_option maxRecDepth 100000 in
theorem law_case_37 {p : Program} {l : Launch} {e : Env} {s : State} {m : MethodId} {below : List Frame} {meth : Method} {c : Code} {b L : Nat} {xs : Nat → Int32} {A : Nat → Prop} {G : va_G} {cy : Nat → ClassId} {ad : rf → Nat} {ce sl : Nat} {Z : State → Prop} (X : LX p s m c b L xs A G cy ad ce sl) {i : Int32} {M : mM} (hI : Inv M) (hD : InvD M) (hR : RXz M.1) (hi : 0 ≤ i.toInt ∧ i.toInt + 6 ≤ (L : Int)) (hend : ∀ M' : mM, Inv M' → InvD M' → RXz M'.1 → WL p l e s m below meth c b A G cy ad ce sl Z 1731 [(3, vI i), (0, vR (94, 0, 0)), (1, vR (11, 0, 0)), (2, vR (12, 0, 0))] [] M') : WL p l e s m below meth c b A G cy ad ce sl Z 1639 [(3, vI i), (0, vR (94, 0, 0)), (1, vR (11, 0, 0)), (2, vR (12, 0, 0))] [] M := by
  refine wl_aload_n X dL_law_1639 rfl 2 rfl ?_
  refine wl_arg X 1 hi (by decide) (v := 1) (by decide) (ki := 1) (by decide) 1 0 rfl rfl dL_law_1640 dL_law_1641 dL_law_1642 dL_law_1643 dL_law_1644 ?_
  refine wl_callC X (as := [vI (xs (i.toInt.toNat + 1))]) (rest := []) (c_X11_tell l G cy ad 0 (xs (i.toInt.toNat + 1)) M hI) kV_X11_tell pnn_0 (Nat.le_of_ble_eq_true rfl) m_1284 rfl rfl rfl (by decide) (Nat.le_of_ble_eq_true rfl) (Nat.le_of_ble_eq_true rfl) dL_law_1645 (fun r1_ M2_ q3_ => ?_)
  obtain ⟨hI1_, hF1_, -, hs1_⟩ := q3_
  have e1_ : mgC M2_ M = M2_ := mgC_self hF1_ SC_X11_tell
  rw [e1_]
  have hD1_ : InvD M2_ := e1_ ▸ mgC_D (M' := M2_) hD
  refine wl_pop X dL_law_1648 ?_
  refine wl_aload_n X dL_law_1649 rfl 3 rfl ?_
  refine wl_arg X 1 hi (by decide) (v := 1) (by decide) (ki := 1) (by decide) 1 0 rfl rfl dL_law_1650 dL_law_1651 dL_law_1652 dL_law_1653 dL_law_1654 ?_
  refine wl_callD X (as := [vI (xs (i.toInt.toNat + 1))]) (rest := []) (c_X12_tell l G cy ad 0 (xs (i.toInt.toNat + 1)) M2_ hD1_) kV_X12_tell pnn_17 (Nat.le_of_ble_eq_true rfl) m_1850 rfl rfl rfl (by decide) (Nat.le_of_ble_eq_true rfl) (Nat.le_of_ble_eq_true rfl) dL_law_1655 (fun r4_ M5_ q6_ => ?_)
  obtain ⟨hI2_, hF2_, -, hs2_⟩ := q6_
  have e2_ : (mgD M5_ M2_).1 = M5_.1 := mgD_self hF2_ SD_X12_tell
  have hI9_ : Inv (mgD M5_ M2_) := mgD_I hI1_
  have hD9_ : InvD (mgD M5_ M2_) := mgD_D hI2_
  have st_ := st_37 hR hD hF1_ hs1_ hF2_ hs2_
  refine wl_pop X dL_law_1658 ?_
  refine wl_goto X (tgt := 1731) dL_law_1659 (by decide) ?_
  exact hend _ hI9_ hD9_ (by rw [e2_]; exact st_.1)
set_option maxHeartbeats 4000000 in
set_option maxRecDepth 100000 in
theorem law_case_38 {p : Program} {l : Launch} {e : Env} {s : State} {m : MethodId} {below : List Frame} {meth : Method} {c : Code} {b L : Nat} {xs : Nat → Int32} {A : Nat → Prop} {G : va_G} {cy : Nat → ClassId} {ad : rf → Nat} {ce sl : Nat} {Z : State → Prop} (X : LX p s m c b L xs A G cy ad ce sl) {i : Int32} {M : mM} (hI : Inv M) (hD : InvD M) (hR : RXz M.1) (hi : 0 ≤ i.toInt ∧ i.toInt + 6 ≤ (L : Int)) (hend : ∀ M' : mM, Inv M' → InvD M' → RXz M'.1 → WL p l e s m below meth c b A G cy ad ce sl Z 1731 [(3, vI i), (0, vR (94, 0, 0)), (1, vR (11, 0, 0)), (2, vR (12, 0, 0))] [] M') : WL p l e s m below meth c b A G cy ad ce sl Z 1662 [(3, vI i), (0, vR (94, 0, 0)), (1, vR (11, 0, 0)), (2, vR (12, 0, 0))] [] M := by
  refine wl_aload_n X dL_law_1662 rfl 2 rfl ?_
  refine wl_arg X 1 hi (by decide) (v := 1) (by decide) (ki := 1) (by decide) 1 0 rfl rfl dL_law_1663 dL_law_1664 dL_law_1665 dL_law_1666 dL_law_1667 ?_
  refine wl_callC X (as := [vI (xs (i.toInt.toNat + 1))]) (rest := []) (c_X11_check l G cy ad 0 (xs (i.toInt.toNat + 1)) M hI) kV_X11_check pnn_0 (Nat.le_of_ble_eq_true rfl) m_1288 rfl rfl rfl (by decide) (Nat.le_of_ble_eq_true rfl) (Nat.le_of_ble_eq_true rfl) dL_law_1668 (fun r1_ M2_ q3_ => ?_)
  obtain ⟨hI1_, hF1_, -, hs1_⟩ := q3_
  have e1_ : mgC M2_ M = M2_ := mgC_self hF1_ SC_X11_check
  rw [e1_]
  have hD1_ : InvD M2_ := e1_ ▸ mgC_D (M' := M2_) hD
  refine wl_pop X dL_law_1671 ?_
  refine wl_aload_n X dL_law_1672 rfl 3 rfl ?_
  refine wl_arg X 1 hi (by decide) (v := 1) (by decide) (ki := 1) (by decide) 1 0 rfl rfl dL_law_1673 dL_law_1674 dL_law_1675 dL_law_1676 dL_law_1677 ?_
  refine wl_callD X (as := [vI (xs (i.toInt.toNat + 1))]) (rest := []) (c_X12_check l G cy ad 0 (xs (i.toInt.toNat + 1)) M2_ hD1_) kV_X12_check pnn_17 (Nat.le_of_ble_eq_true rfl) m_1854 rfl rfl rfl (by decide) (Nat.le_of_ble_eq_true rfl) (Nat.le_of_ble_eq_true rfl) dL_law_1678 (fun r4_ M5_ q6_ => ?_)
  obtain ⟨hI2_, hF2_, -, hs2_⟩ := q6_
  have e2_ : (mgD M5_ M2_).1 = M5_.1 := mgD_self hF2_ SD_X12_check
  have hI9_ : Inv (mgD M5_ M2_) := mgD_I hI1_
  have hD9_ : InvD (mgD M5_ M2_) := mgD_D hI2_
  have st_ := st_38 hR hD hF1_ hs1_ hF2_ hs2_
  refine wl_pop X dL_law_1681 ?_
  refine wl_goto X (tgt := 1731) dL_law_1682 (by decide) ?_
  exact hend _ hI9_ hD9_ (by rw [e2_]; exact st_.1)
set_option maxHeartbeats 4000000 in
set_option maxRecDepth 100000 in
theorem law_case_39 {p : Program} {l : Launch} {e : Env} {s : State} {m : MethodId} {below : List Frame} {meth : Method} {c : Code} {b L : Nat} {xs : Nat → Int32} {A : Nat → Prop} {G : va_G} {cy : Nat → ClassId} {ad : rf → Nat} {ce sl : Nat} {Z : State → Prop} (X : LX p s m c b L xs A G cy ad ce sl) {i : Int32} {M : mM} (hI : Inv M) (hD : InvD M) (hR : RXz M.1) (hi : 0 ≤ i.toInt ∧ i.toInt + 6 ≤ (L : Int)) (hend : ∀ M' : mM, Inv M' → InvD M' → RXz M'.1 → WL p l e s m below meth c b A G cy ad ce sl Z 1731 [(3, vI i), (0, vR (94, 0, 0)), (1, vR (11, 0, 0)), (2, vR (12, 0, 0))] [] M') : WL p l e s m below meth c b A G cy ad ce sl Z 1685 [(3, vI i), (0, vR (94, 0, 0)), (1, vR (11, 0, 0)), (2, vR (12, 0, 0))] [] M := by
  refine wl_aload_n X dL_law_1685 rfl 2 rfl ?_
  refine wl_arg X 1 hi (by decide) (v := 1) (by decide) (ki := 1) (by decide) 1 0 rfl rfl dL_law_1686 dL_law_1687 dL_law_1688 dL_law_1689 dL_law_1690 ?_
  refine wl_callC X (as := [vI (xs (i.toInt.toNat + 1))]) (rest := []) (c_X11_count l G cy ad 0 (xs (i.toInt.toNat + 1)) M hI) kV_X11_count pnn_0 (Nat.le_of_ble_eq_true rfl) m_1292 rfl rfl rfl (by decide) (Nat.le_of_ble_eq_true rfl) (Nat.le_of_ble_eq_true rfl) dL_law_1691 (fun r1_ M2_ q3_ => ?_)
  obtain ⟨hI1_, hF1_, -, hs1_⟩ := q3_
  have e1_ : mgC M2_ M = M2_ := mgC_self hF1_ SC_X11_count
  rw [e1_]
  have hD1_ : InvD M2_ := e1_ ▸ mgC_D (M' := M2_) hD
  refine wl_pop X dL_law_1694 ?_
  refine wl_aload_n X dL_law_1695 rfl 3 rfl ?_
  refine wl_arg X 1 hi (by decide) (v := 1) (by decide) (ki := 1) (by decide) 1 0 rfl rfl dL_law_1696 dL_law_1697 dL_law_1698 dL_law_1699 dL_law_1700 ?_
  refine wl_callD X (as := [vI (xs (i.toInt.toNat + 1))]) (rest := []) (c_X12_count l G cy ad 0 (xs (i.toInt.toNat + 1)) M2_ hD1_) kV_X12_count pnn_17 (Nat.le_of_ble_eq_true rfl) m_1858 rfl rfl rfl (by decide) (Nat.le_of_ble_eq_true rfl) (Nat.le_of_ble_eq_true rfl) dL_law_1701 (fun r4_ M5_ q6_ => ?_)
  obtain ⟨hI2_, hF2_, -, hs2_⟩ := q6_
  have e2_ : (mgD M5_ M2_).1 = M5_.1 := mgD_self hF2_ SD_X12_count
  have hI9_ : Inv (mgD M5_ M2_) := mgD_I hI1_
  have hD9_ : InvD (mgD M5_ M2_) := mgD_D hI2_
  have st_ := st_39 hR hD hF1_ hs1_ hF2_ hs2_
  refine wl_pop X dL_law_1704 ?_
  refine wl_goto X (tgt := 1731) dL_law_1705 (by decide) ?_
  exact hend _ hI9_ hD9_ (by rw [e2_]; exact st_.1)
set_option maxHeartbeats 4000000 in
set_option maxRecDepth 100000 in
theorem law_case_40 {p : Program} {l : Launch} {e : Env} {s : State} {m : MethodId} {below : List Frame} {meth : Method} {c : Code} {b L : Nat} {xs : Nat → Int32} {A : Nat → Prop} {G : va_G} {cy : Nat → ClassId} {ad : rf → Nat} {ce sl : Nat} {Z : State → Prop} (X : LX p s m c b L xs A G cy ad ce sl) {i : Int32} {M : mM} (hI : Inv M) (hD : InvD M) (hR : RXz M.1) (hi : 0 ≤ i.toInt ∧ i.toInt + 6 ≤ (L : Int)) (hend : ∀ M' : mM, Inv M' → InvD M' → RXz M'.1 → WL p l e s m below meth c b A G cy ad ce sl Z 1731 [(3, vI i), (0, vR (94, 0, 0)), (1, vR (11, 0, 0)), (2, vR (12, 0, 0))] [] M') : WL p l e s m below meth c b A G cy ad ce sl Z 1708 [(3, vI i), (0, vR (94, 0, 0)), (1, vR (11, 0, 0)), (2, vR (12, 0, 0))] [] M := by
  refine wl_aload_n X dL_law_1708 rfl 2 rfl ?_
  refine wl_arg X 1 hi (by decide) (v := 1) (by decide) (ki := 1) (by decide) 1 0 rfl rfl dL_law_1709 dL_law_1710 dL_law_1711 dL_law_1712 dL_law_1713 ?_
  refine wl_callC X (as := [vI (xs (i.toInt.toNat + 1))]) (rest := []) (c_X11_told l G cy ad 0 (xs (i.toInt.toNat + 1)) M hI) kV_X11_told pnn_0 (Nat.le_of_ble_eq_true rfl) m_1308 rfl rfl rfl (by decide) (Nat.le_of_ble_eq_true rfl) (Nat.le_of_ble_eq_true rfl) dL_law_1714 (fun r1_ M2_ q3_ => ?_)
  obtain ⟨hI1_, hF1_, -, hs1_⟩ := q3_
  have e1_ : mgC M2_ M = M2_ := mgC_self hF1_ SC_X11_told
  rw [e1_]
  have hD1_ : InvD M2_ := e1_ ▸ mgC_D (M' := M2_) hD
  refine wl_pop X dL_law_1717 ?_
  refine wl_aload_n X dL_law_1718 rfl 3 rfl ?_
  refine wl_arg X 1 hi (by decide) (v := 1) (by decide) (ki := 1) (by decide) 1 0 rfl rfl dL_law_1719 dL_law_1720 dL_law_1721 dL_law_1722 dL_law_1723 ?_
  refine wl_callD X (as := [vI (xs (i.toInt.toNat + 1))]) (rest := []) (c_X12_told l G cy ad 0 (xs (i.toInt.toNat + 1)) M2_ hD1_) kV_X12_told pnn_17 (Nat.le_of_ble_eq_true rfl) m_1866 rfl rfl rfl (by decide) (Nat.le_of_ble_eq_true rfl) (Nat.le_of_ble_eq_true rfl) dL_law_1724 (fun r4_ M5_ q6_ => ?_)
  obtain ⟨hI2_, hF2_, -, hs2_⟩ := q6_
  have e2_ : (mgD M5_ M2_).1 = M5_.1 := mgD_self hF2_ SD_X12_told
  have hI9_ : Inv (mgD M5_ M2_) := mgD_I hI1_
  have hD9_ : InvD (mgD M5_ M2_) := mgD_D hI2_
  have st_ := st_40 hR hD hF1_ hs1_ hF2_ hs2_
  refine wl_pop X dL_law_1727 ?_
  refine wl_goto X (tgt := 1731) dL_law_1728 (by decide) ?_
  exact hend _ hI9_ hD9_ (by rw [e2_]; exact st_.1)
end
section
/-! words of the tables that are used, by their places; decode rows; fields -/
theorem ch_code_0 : (code.data.toList.drop 0).take 36 = [187, 0, 7, 89, 183, 0, 9, 76, 187, 0, 10, 89, 183, 0, 12, 77, 3, 62, 29, 42, 190, 16, 6, 100, 163, 6, 177, 42, 29, 46, 16, 63, 126, 170, 0, 0] := by decide +kernel
theorem dL_law_18 : decode code 18 = .ok (.iload_n 3, 1) := do_29 (rdb (p := 0) (i := 18) ch_code_0 rfl)
theorem dL_law_19 : decode code 19 = .ok (.aload_n 0, 1) := do_42 (rdb (p := 0) (i := 19) ch_code_0 rfl)
theorem dL_law_20 : decode code 20 = .ok (.arraylength, 1) := do_190 (rdb (p := 0) (i := 20) ch_code_0 rfl)
theorem dL_law_21 : decode code 21 = .ok (.bipush 6, 2) := do_16 (rdb (p := 0) (i := 21) ch_code_0 rfl) (rdb (p := 0) (i := 22) ch_code_0 rfl) (by decide +kernel)
theorem dL_law_23 : decode code 23 = .ok (.isub, 1) := do_100 (rdb (p := 0) (i := 23) ch_code_0 rfl)
theorem dL_law_24 : decode code 24 = .ok (.if_icmp .gt 1713, 3) := do_163 (rdb (p := 0) (i := 24) ch_code_0 rfl) (rdb (p := 0) (i := 25) ch_code_0 rfl) (rdb (p := 0) (i := 26) ch_code_0 rfl) (by decide +kernel)
theorem dL_law_27 : decode code 27 = .ok (.aload_n 0, 1) := do_42 (rdb (p := 0) (i := 27) ch_code_0 rfl)
theorem dL_law_28 : decode code 28 = .ok (.iload_n 3, 1) := do_29 (rdb (p := 0) (i := 28) ch_code_0 rfl)
theorem dL_law_29 : decode code 29 = .ok (.iaload, 1) := do_46 (rdb (p := 0) (i := 29) ch_code_0 rfl)
theorem dL_law_30 : decode code 30 = .ok (.bipush 63, 2) := do_16 (rdb (p := 0) (i := 30) ch_code_0 rfl) (rdb (p := 0) (i := 31) ch_code_0 rfl) (by decide +kernel)
theorem ch_code_32 : (code.data.toList.drop 32).take 36 = [126, 170, 0, 0, 0, 0, 6, 162, 0, 0, 0, 0, 0, 0, 0, 40, 0, 0, 0, 179, 0, 0, 0, 212, 0, 0, 0, 245, 0, 0, 1, 32, 0, 0, 1, 55] := by decide +kernel
theorem dL_law_32 : decode code 32 = .ok (.iand, 1) := do_126 (rdb (p := 32) (i := 0) ch_code_32 rfl)
theorem dL_law_33 : decode code 33 = .ok (.tableswitch 1698 0 40 #[179, 212, 245, 288, 311, 354, 377, 410, 443, 486, 519, 552, 605, 638, 687, 750, 773, 826, 849, 892, 925, 988, 1041, 1084, 1137, 1160, 1203, 1226, 1269, 1312, 1365, 1408, 1431, 1474, 1517, 1580, 1593, 1606, 1629, 1652, 1675], 179) := by decide +kernel
theorem dL_law_1731 : decode code 1731 = .ok (.iinc 3 6, 3) := do_132 (rdb (p := 1728) (i := 3) ch_code_1728 rfl) (rdb (p := 1728) (i := 4) ch_code_1728 rfl) (rdb (p := 1728) (i := 5) ch_code_1728 rfl) (by decide +kernel)
theorem dL_law_1734 : decode code 1734 = .ok (.goto (-1716), 3) := do_167 (rdb (p := 1728) (i := 6) ch_code_1728 rfl) (rdb (p := 1728) (i := 7) ch_code_1728 rfl) (rdb (p := 1728) (i := 8) ch_code_1728 rfl) (by decide +kernel)
end
section
set_option maxHeartbeats 4000000 in
set_option maxRecDepth 100000 in
theorem law_loop {p : Program} {l : Launch} {e : Env} {s : State} {m : MethodId} {below : List Frame} {meth : Method} {c : Code} {b L : Nat} {xs : Nat → Int32} {A : Nat → Prop} {G : va_G} {cy : Nat → ClassId} {ad : rf → Nat} {ce sl : Nat} {Z : State → Prop} (X : LX p s m c b L xs A G cy ad ce sl) (hfin : ∀ (M : mM) (ls : List (Nat × mV)), WL p l e s m below meth c b A G cy ad ce sl Z 1737 ls [] M) : ∀ (nn : Nat) (i : Int32) (M : mM), Inv M → InvD M → RXz M.1 → 0 ≤ i.toInt ∧ i.toInt ≤ (L : Int) → ((L : Int) - i.toInt).toNat < nn → WL p l e s m below meth c b A G cy ad ce sl Z 18 [(3, vI i), (0, vR (94, 0, 0)), (1, vR (11, 0, 0)), (2, vR (12, 0, 0))] [] M := by
  intro nn
  induction nn with
  | zero => intro i M hI hD hR hi hm; exact absurd hm (Nat.not_lt_zero _)
  | succ nn ih =>
    intro i M hI hD hR hi hm
    have hL := X.2.2.2.2.2.2.2.2.2.2.2.2.1
    refine wl_iload_n X dL_law_18 rfl 0 rfl ?_
    refine wl_aload_n X dL_law_19 rfl 1 rfl ?_
    refine wl_slen X dL_law_20 (fun z hz => ?_)
    refine wl_bipush X (v := 6) dL_law_21 (by decide) ?_
    refine wl_isubB X dL_law_23 hz (c0 := 6) (by decide) (by omega) (fun z2 hz2 => ?_)
    refine wl_icmp_gt X (tgt := 1737) dL_law_24 (by decide) rfl hz2 (fun _ => hfin _ _) (fun h6 => ?_)
    have hi6 : 0 ≤ i.toInt ∧ i.toInt + 6 ≤ (L : Int) := ⟨hi.1, by omega⟩
    refine wl_aload_n X dL_law_27 rfl 1 rfl ?_
    refine wl_iload_n X dL_law_28 rfl 0 rfl ?_
    refine wl_sld X i.toInt.toNat (by omega) (by omega) dL_law_29 ?_
    refine wl_bipush X (v := 63) dL_law_30 (by decide) ?_
    refine wl_iandB X 6 dL_law_32 (by decide) (by decide) (fun w hw => ?_)
    have hend : ∀ M' : mM, Inv M' → InvD M' → RXz M'.1 → WL p l e s m below meth c b A G cy ad ce sl Z 1731 [(3, vI i), (0, vR (94, 0, 0)), (1, vR (11, 0, 0)), (2, vR (12, 0, 0))] [] M' := by
      intro M' hI' hD' hR'
      refine wl_iincB X (j := 0) (f := fun z => [(3, vI z), (0, vR (94, 0, 0)), (1, vR (11, 0, 0)), (2, vR (12, 0, 0))]) dL_law_1731 rfl (by decide) (fun _ => rfl) rfl (by decide) (by omega) (fun z3 hz3 => ?_)
      refine wl_goto X (tgt := 18) dL_law_1734 (by decide) ?_
      exact ih z3 M' hI' hD' hR' ⟨by omega, by omega⟩ (by omega)
    obtain ⟨j, hj⟩ : ∃ j : Nat, w.toInt = (j : Int) := ⟨w.toInt.toNat, by omega⟩
    rcases Nat.lt_or_ge j 41 with h41 | h41
    · match j, h41 with
      | 0, _ => exact wl_tsIn X (tgt := 212) (off := 179) dL_law_33 hj (by decide) (by decide) rfl (by decide) (law_case_0 X hI hD hR hi6 hend)
      | 1, _ => exact wl_tsIn X (tgt := 245) (off := 212) dL_law_33 hj (by decide) (by decide) rfl (by decide) (law_case_1 X hI hD hR hi6 hend)
      | 2, _ => exact wl_tsIn X (tgt := 278) (off := 245) dL_law_33 hj (by decide) (by decide) rfl (by decide) (law_case_2 X hI hD hR hi6 hend)
      | 3, _ => exact wl_tsIn X (tgt := 321) (off := 288) dL_law_33 hj (by decide) (by decide) rfl (by decide) (law_case_3 X hI hD hR hi6 hend)
      | 4, _ => exact wl_tsIn X (tgt := 344) (off := 311) dL_law_33 hj (by decide) (by decide) rfl (by decide) (law_case_4 X hI hD hR hi6 hend)
      | 5, _ => exact wl_tsIn X (tgt := 387) (off := 354) dL_law_33 hj (by decide) (by decide) rfl (by decide) (law_case_5 X hI hD hR hi6 hend)
      | 6, _ => exact wl_tsIn X (tgt := 410) (off := 377) dL_law_33 hj (by decide) (by decide) rfl (by decide) (law_case_6 X hI hD hR hi6 hend)
      | 7, _ => exact wl_tsIn X (tgt := 443) (off := 410) dL_law_33 hj (by decide) (by decide) rfl (by decide) (law_case_7 X hI hD hR hi6 hend)
      | 8, _ => exact wl_tsIn X (tgt := 476) (off := 443) dL_law_33 hj (by decide) (by decide) rfl (by decide) (law_case_8 X hI hD hR hi6 hend)
      | 9, _ => exact wl_tsIn X (tgt := 519) (off := 486) dL_law_33 hj (by decide) (by decide) rfl (by decide) (law_case_9 X hI hD hR hi6 hend)
      | 10, _ => exact wl_tsIn X (tgt := 552) (off := 519) dL_law_33 hj (by decide) (by decide) rfl (by decide) (law_case_10 X hI hD hR hi6 hend)
      | 11, _ => exact wl_tsIn X (tgt := 585) (off := 552) dL_law_33 hj (by decide) (by decide) rfl (by decide) (law_case_11 X hI hD hR hi6 hend)
      | 12, _ => exact wl_tsIn X (tgt := 638) (off := 605) dL_law_33 hj (by decide) (by decide) rfl (by decide) (law_case_12 X hI hD hR hi6 hend)
      | 13, _ => exact wl_tsIn X (tgt := 671) (off := 638) dL_law_33 hj (by decide) (by decide) rfl (by decide) (law_case_13 X hI hD hR hi6 hend)
      | 14, _ => exact wl_tsIn X (tgt := 720) (off := 687) dL_law_33 hj (by decide) (by decide) rfl (by decide) (law_case_14 X hI hD hR hi6 hend)
      | 15, _ => exact wl_tsIn X (tgt := 783) (off := 750) dL_law_33 hj (by decide) (by decide) rfl (by decide) (law_case_15 X hI hD hR hi6 hend)
      | 16, _ => exact wl_tsIn X (tgt := 806) (off := 773) dL_law_33 hj (by decide) (by decide) rfl (by decide) (law_case_16 X hI hD hR hi6 hend)
      | 17, _ => exact wl_tsIn X (tgt := 859) (off := 826) dL_law_33 hj (by decide) (by decide) rfl (by decide) (law_case_17 X hI hD hR hi6 hend)
      | 18, _ => exact wl_tsIn X (tgt := 882) (off := 849) dL_law_33 hj (by decide) (by decide) rfl (by decide) (law_case_18 X hI hD hR hi6 hend)
      | 19, _ => exact wl_tsIn X (tgt := 925) (off := 892) dL_law_33 hj (by decide) (by decide) rfl (by decide) (law_case_19 X hI hD hR hi6 hend)
      | 20, _ => exact wl_tsIn X (tgt := 958) (off := 925) dL_law_33 hj (by decide) (by decide) rfl (by decide) (law_case_20 X hI hD hR hi6 hend)
      | 21, _ => exact wl_tsIn X (tgt := 1021) (off := 988) dL_law_33 hj (by decide) (by decide) rfl (by decide) (law_case_21 X hI hD hR hi6 hend)
      | 22, _ => exact wl_tsIn X (tgt := 1074) (off := 1041) dL_law_33 hj (by decide) (by decide) rfl (by decide) (law_case_22 X hI hD hR hi6 hend)
      | 23, _ => exact wl_tsIn X (tgt := 1117) (off := 1084) dL_law_33 hj (by decide) (by decide) rfl (by decide) (law_case_23 X hI hD hR hi6 hend)
      | 24, _ => exact wl_tsIn X (tgt := 1170) (off := 1137) dL_law_33 hj (by decide) (by decide) rfl (by decide) (law_case_24 X hI hD hR hi6 hend)
      | 25, _ => exact wl_tsIn X (tgt := 1193) (off := 1160) dL_law_33 hj (by decide) (by decide) rfl (by decide) (law_case_25 X hI hD hR hi6 hend)
      | 26, _ => exact wl_tsIn X (tgt := 1236) (off := 1203) dL_law_33 hj (by decide) (by decide) rfl (by decide) (law_case_26 X hI hD hR hi6 hend)
      | 27, _ => exact wl_tsIn X (tgt := 1259) (off := 1226) dL_law_33 hj (by decide) (by decide) rfl (by decide) (law_case_27 X hI hD hR hi6 hend)
      | 28, _ => exact wl_tsIn X (tgt := 1302) (off := 1269) dL_law_33 hj (by decide) (by decide) rfl (by decide) (law_case_28 X hI hD hR hi6 hend)
      | 29, _ => exact wl_tsIn X (tgt := 1345) (off := 1312) dL_law_33 hj (by decide) (by decide) rfl (by decide) (law_case_29 X hI hD hR hi6 hend)
      | 30, _ => exact wl_tsIn X (tgt := 1398) (off := 1365) dL_law_33 hj (by decide) (by decide) rfl (by decide) (law_case_30 X hI hD hR hi6 hend)
      | 31, _ => exact wl_tsIn X (tgt := 1441) (off := 1408) dL_law_33 hj (by decide) (by decide) rfl (by decide) (law_case_31 X hI hD hR hi6 hend)
      | 32, _ => exact wl_tsIn X (tgt := 1464) (off := 1431) dL_law_33 hj (by decide) (by decide) rfl (by decide) (law_case_32 X hI hD hR hi6 hend)
      | 33, _ => exact wl_tsIn X (tgt := 1507) (off := 1474) dL_law_33 hj (by decide) (by decide) rfl (by decide) (law_case_33 X hI hD hR hi6 hend)
      | 34, _ => exact wl_tsIn X (tgt := 1550) (off := 1517) dL_law_33 hj (by decide) (by decide) rfl (by decide) (law_case_34 X hI hD hR hi6 hend)
      | 35, _ => exact wl_tsIn X (tgt := 1613) (off := 1580) dL_law_33 hj (by decide) (by decide) rfl (by decide) (law_case_35 X hI hD hR hi6 hend)
      | 36, _ => exact wl_tsIn X (tgt := 1626) (off := 1593) dL_law_33 hj (by decide) (by decide) rfl (by decide) (law_case_36 X hI hD hR hi6 hend)
      | 37, _ => exact wl_tsIn X (tgt := 1639) (off := 1606) dL_law_33 hj (by decide) (by decide) rfl (by decide) (law_case_37 X hI hD hR hi6 hend)
      | 38, _ => exact wl_tsIn X (tgt := 1662) (off := 1629) dL_law_33 hj (by decide) (by decide) rfl (by decide) (law_case_38 X hI hD hR hi6 hend)
      | 39, _ => exact wl_tsIn X (tgt := 1685) (off := 1652) dL_law_33 hj (by decide) (by decide) rfl (by decide) (law_case_39 X hI hD hR hi6 hend)
      | 40, _ => exact wl_tsIn X (tgt := 1708) (off := 1675) dL_law_33 hj (by decide) (by decide) rfl (by decide) (law_case_40 X hI hD hR hi6 hend)
      | j + 41, h => exact absurd h (by omega)
    · exact wl_tsOut X (tgt := 1731) dL_law_33 hj (Or.inr (by omega)) (by decide) (hend M hI hD hR)
end
