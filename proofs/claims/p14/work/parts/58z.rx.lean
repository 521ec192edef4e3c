theorem bDn {c : rf} (h : ¬ c.1 = 12) (h2 : c.1 < 50) : bD c = false := by
  cases hb : bD c with
  | false => rfl
  | true =>
    exfalso
    unfold bD at hb
    simp at hb
    omega
theorem bDy {c : rf} (h : c.1 = 12 ∨ 50 ≤ c.1) : bD c = true := by unfold bD; simp; omega
theorem mgC_self {S : rf → Nat → Prop} {M M1 : mM} (h : FR S M M1) (hs : ∀ c k, S c k → bD c = false) : mgC M1 M = M1 := by
  refine Prod.ext (funext fun c => funext fun k => ?_) rfl
  show (bif bD c then M.1 c k else M1.1 c k) = _
  cases hb : bD c with
  | false => rfl
  | true => exact (h c k (fun q => by rw [hs c k q] at hb; cases hb)).symm
theorem mgC_same {M : mM} : mgC M M = M := by
  refine Prod.ext (funext fun c => funext fun k => ?_) rfl
  show (bif bD c then M.1 c k else M.1 c k) = _
  cases bD c <;> rfl
theorem mgD_self {S : rf → Nat → Prop} {M M1 : mM} (h : FR S M M1) (hs : ∀ c k, S c k → bD c = true) : (mgD M1 M).1 = M1.1 := by
  refine funext fun c => funext fun k => ?_
  show (bif bD c then M1.1 c k else M.1 c k) = _
  cases hb : bD c with
  | true => rfl
  | false => exact (h c k (fun q => by rw [hs c k q] at hb; cases hb)).symm
theorem SC_X11_thing : ∀ c k, S_c_X11_thing c k → bD c = false := fun c k h => by simp only [S_c_X11_thing, or_false] at h; exact bDn (by omega) (by omega)
theorem SD_X12_thing_ : ∀ c k, S_c_X12_thing_ c k → bD c = true := fun c k h => by simp only [S_c_X12_thing_, or_false] at h; exact bDy (by omega)
theorem SC_X11_thingIs : ∀ c k, S_c_X11_thingIs c k → bD c = false := fun c k h => by simp only [S_c_X11_thingIs, or_false] at h; exact bDn (by omega) (by omega)
theorem SD_X12_thingIs : ∀ c k, S_c_X12_thingIs c k → bD c = true := fun c k h => by simp only [S_c_X12_thingIs, or_false] at h; exact bDy (by omega)
theorem SC_X11_moves : ∀ c k, S_c_X11_moves c k → bD c = false := fun c k h => by simp only [S_c_X11_moves, or_false] at h; exact bDn (by omega) (by omega)
theorem SD_X12_moves : ∀ c k, S_c_X12_moves c k → bD c = true := fun c k h => by simp only [S_c_X12_moves, or_false] at h; exact bDy (by omega)
theorem SC_X11_away : ∀ c k, S_c_X11_away c k → bD c = false := fun c k h => by simp only [S_c_X11_away, or_false] at h; exact bDn (by omega) (by omega)
theorem SD_X12_away : ∀ c k, S_c_X12_away c k → bD c = true := fun c k h => by simp only [S_c_X12_away, or_false] at h; exact bDy (by omega)
theorem SC_X11_kind : ∀ c k, S_c_X11_kind c k → bD c = false := fun c k h => by simp only [S_c_X11_kind, or_false] at h; exact bDn (by omega) (by omega)
theorem SD_X12_kind : ∀ c k, S_c_X12_kind c k → bD c = true := fun c k h => by simp only [S_c_X12_kind, or_false] at h; exact bDy (by omega)
theorem SC_X11_at : ∀ c k, S_c_X11_at c k → bD c = false := fun c k h => by simp only [S_c_X11_at, or_false] at h; exact bDn (by omega) (by omega)
theorem SD_X12_at : ∀ c k, S_c_X12_at c k → bD c = true := fun c k h => by simp only [S_c_X12_at, or_false] at h; exact bDy (by omega)
theorem SC_X11_lays : ∀ c k, S_c_X11_lays c k → bD c = false := fun c k h => by simp only [S_c_X11_lays, or_false] at h; exact bDn (by omega) (by omega)
theorem SD_X12_lays : ∀ c k, S_c_X12_lays c k → bD c = true := fun c k h => by simp only [S_c_X12_lays, or_false] at h; exact bDy (by omega)
theorem SC_X11_air : ∀ c k, S_c_X11_air c k → bD c = false := fun c k h => by simp only [S_c_X11_air, or_false] at h; exact bDn (by omega) (by omega)
theorem SD_X12_air : ∀ c k, S_c_X12_air c k → bD c = true := fun c k h => by simp only [S_c_X12_air, or_false] at h; exact bDy (by omega)
theorem SC_X11_walker : ∀ c k, S_c_X11_walker c k → bD c = false := fun c k h => by simp only [S_c_X11_walker, or_false] at h; exact bDn (by omega) (by omega)
theorem SD_X12_walker : ∀ c k, S_c_X12_walker c k → bD c = true := fun c k h => by simp only [S_c_X12_walker, or_false] at h; exact bDy (by omega)
theorem SC_X11_walkerIs : ∀ c k, S_c_X11_walkerIs c k → bD c = false := fun c k h => by simp only [S_c_X11_walkerIs, or_false] at h; exact bDn (by omega) (by omega)
theorem SD_X12_walkerIs : ∀ c k, S_c_X12_walkerIs c k → bD c = true := fun c k h => by simp only [S_c_X12_walkerIs, or_false] at h; exact bDy (by omega)
theorem SC_X11_as : ∀ c k, S_c_X11_as c k → bD c = false := fun c k h => by simp only [S_c_X11_as, or_false] at h; exact bDn (by omega) (by omega)
theorem SD_X12_as : ∀ c k, S_c_X12_as c k → bD c = true := fun c k h => by simp only [S_c_X12_as, or_false] at h; exact bDy (by omega)
theorem SC_X11_habit : ∀ c k, S_c_X11_habit c k → bD c = false := fun c k h => by simp only [S_c_X11_habit, or_false] at h; exact bDn (by omega) (by omega)
theorem SD_X12_habit : ∀ c k, S_c_X12_habit c k → bD c = true := fun c k h => by simp only [S_c_X12_habit, or_false] at h; exact bDy (by omega)
theorem SC_X11_face : ∀ c k, S_c_X11_face c k → bD c = false := fun c k h => by simp only [S_c_X11_face, or_false] at h; exact bDn (by omega) (by omega)
theorem SD_X12_face : ∀ c k, S_c_X12_face c k → bD c = true := fun c k h => by simp only [S_c_X12_face, or_false] at h; exact bDy (by omega)
theorem SC_X11_goes : ∀ c k, S_c_X11_goes c k → bD c = false := fun c k h => by simp only [S_c_X11_goes, or_false] at h; exact bDn (by omega) (by omega)
theorem SD_X12_goes : ∀ c k, S_c_X12_goes c k → bD c = true := fun c k h => by simp only [S_c_X12_goes, or_false] at h; exact bDy (by omega)
theorem SC_X11_feed : ∀ c k, S_c_X11_feed c k → bD c = false := fun c k h => by simp only [S_c_X11_feed, or_false] at h; exact bDn (by omega) (by omega)
theorem SD_X12_feed : ∀ c k, S_c_X12_feed c k → bD c = true := fun c k h => by simp only [S_c_X12_feed, or_false] at h; exact bDy (by omega)
theorem SC_X11_text : ∀ c k, S_c_X11_text c k → bD c = false := fun c k h => by simp only [S_c_X11_text, or_false] at h; exact bDn (by omega) (by omega)
theorem SD_X12_text_ : ∀ c k, S_c_X12_text_ c k → bD c = true := fun c k h => by simp only [S_c_X12_text_, or_false] at h; exact bDy (by omega)
theorem SC_X11_echo : ∀ c k, S_c_X11_echo c k → bD c = false := fun c k h => by simp only [S_c_X11_echo, or_false] at h; exact bDn (by omega) (by omega)
theorem SD_X12_echo : ∀ c k, S_c_X12_echo c k → bD c = true := fun c k h => by simp only [S_c_X12_echo, or_false] at h; exact bDy (by omega)
theorem SC_X11_click : ∀ c k, S_c_X11_click c k → bD c = false := fun c k h => by simp only [S_c_X11_click, or_false] at h; exact bDn (by omega) (by omega)
theorem SD_X12_click : ∀ c k, S_c_X12_click c k → bD c = true := fun c k h => by simp only [S_c_X12_click, or_false] at h; exact bDy (by omega)
theorem SC_X11_head : ∀ c k, S_c_X11_head c k → bD c = false := fun c k h => by simp only [S_c_X11_head, or_false] at h; exact bDn (by omega) (by omega)
theorem SD_X12_head : ∀ c k, S_c_X12_head c k → bD c = true := fun c k h => by simp only [S_c_X12_head, or_false] at h; exact bDy (by omega)
theorem SC_X11_heads : ∀ c k, S_c_X11_heads c k → bD c = false := fun c k h => by simp only [S_c_X11_heads, or_false] at h; exact bDn (by omega) (by omega)
theorem SD_X12_heads : ∀ c k, S_c_X12_heads c k → bD c = true := fun c k h => by simp only [S_c_X12_heads, or_false] at h; exact bDy (by omega)
theorem SC_X11_alike : ∀ c k, S_c_X11_alike c k → bD c = false := fun c k h => by simp only [S_c_X11_alike, or_false] at h; exact bDn (by omega) (by omega)
theorem SD_X12_alike : ∀ c k, S_c_X12_alike c k → bD c = true := fun c k h => by simp only [S_c_X12_alike, or_false] at h; exact bDy (by omega)
theorem SC_X11_least : ∀ c k, S_c_X11_least c k → bD c = false := fun c k h => by simp only [S_c_X11_least, or_false] at h; exact bDn (by omega) (by omega)
theorem SD_X12_least : ∀ c k, S_c_X12_least c k → bD c = true := fun c k h => by simp only [S_c_X12_least, or_false] at h; exact bDy (by omega)
theorem SC_X11_farthest : ∀ c k, S_c_X11_farthest c k → bD c = false := fun c k h => by simp only [S_c_X11_farthest, or_false] at h; exact bDn (by omega) (by omega)
theorem SD_X12_farthest : ∀ c k, S_c_X12_farthest c k → bD c = true := fun c k h => by simp only [S_c_X12_farthest, or_false] at h; exact bDy (by omega)
theorem SC_X11_spots : ∀ c k, S_c_X11_spots c k → bD c = false := fun c k h => by simp only [S_c_X11_spots, or_false] at h; exact bDn (by omega) (by omega)
theorem SD_X12_spots : ∀ c k, S_c_X12_spots c k → bD c = true := fun c k h => by simp only [S_c_X12_spots, or_false] at h; exact bDy (by omega)
theorem SC_X11_tenths : ∀ c k, S_c_X11_tenths c k → bD c = false := fun c k h => by simp only [S_c_X11_tenths, or_false] at h; exact bDn (by omega) (by omega)
theorem SD_X12_tenths : ∀ c k, S_c_X12_tenths c k → bD c = true := fun c k h => by simp only [S_c_X12_tenths, or_false] at h; exact bDy (by omega)
theorem SC_X11_way : ∀ c k, S_c_X11_way c k → bD c = false := fun c k h => by simp only [S_c_X11_way, or_false] at h; exact bDn (by omega) (by omega)
theorem SD_X12_way : ∀ c k, S_c_X12_way c k → bD c = true := fun c k h => by simp only [S_c_X12_way, or_false] at h; exact bDy (by omega)
theorem SC_X11_safe : ∀ c k, S_c_X11_safe c k → bD c = false := fun c k h => by simp only [S_c_X11_safe, or_false] at h; exact bDn (by omega) (by omega)
theorem SD_X12_safe : ∀ c k, S_c_X12_safe c k → bD c = true := fun c k h => by simp only [S_c_X12_safe, or_false] at h; exact bDy (by omega)
theorem SC_X11_lesson : ∀ c k, S_c_X11_lesson c k → bD c = false := fun c k h => by simp only [S_c_X11_lesson, or_false] at h; exact bDn (by omega) (by omega)
theorem SD_X12_lesson : ∀ c k, S_c_X12_lesson c k → bD c = true := fun c k h => by simp only [S_c_X12_lesson, or_false] at h; exact bDy (by omega)
theorem SC_X11_learn : ∀ c k, S_c_X11_learn c k → bD c = false := fun c k h => by simp only [S_c_X11_learn, or_false] at h; exact bDn (by omega) (by omega)
theorem SD_X12_learn : ∀ c k, S_c_X12_learn c k → bD c = true := fun c k h => by simp only [S_c_X12_learn, or_false] at h; exact bDy (by omega)
theorem SC_X11_posts : ∀ c k, S_c_X11_posts c k → bD c = false := fun c k h => by simp only [S_c_X11_posts, or_false] at h; exact bDn (by omega) (by omega)
theorem SD_X12_posts : ∀ c k, S_c_X12_posts c k → bD c = true := fun c k h => by simp only [S_c_X12_posts, or_false] at h; exact bDy (by omega)
theorem SC_X11_voice : ∀ c k, S_c_X11_voice c k → bD c = false := fun c k h => by simp only [S_c_X11_voice, or_false] at h; exact bDn (by omega) (by omega)
theorem SD_X12_voice : ∀ c k, S_c_X12_voice c k → bD c = true := fun c k h => by simp only [S_c_X12_voice, or_false] at h; exact bDy (by omega)
theorem SC_X11_trace : ∀ c k, S_c_X11_trace c k → bD c = false := fun c k h => by simp only [S_c_X11_trace, or_false] at h; exact bDn (by omega) (by omega)
theorem SD_X12_trace : ∀ c k, S_c_X12_trace c k → bD c = true := fun c k h => by simp only [S_c_X12_trace, or_false] at h; exact bDy (by omega)
theorem SC_X11_sheet : ∀ c k, S_c_X11_sheet c k → bD c = false := fun c k h => by simp only [S_c_X11_sheet, or_false] at h; exact bDn (by omega) (by omega)
theorem SD_X12_sheet : ∀ c k, S_c_X12_sheet c k → bD c = true := fun c k h => by simp only [S_c_X12_sheet, or_false] at h; exact bDy (by omega)
theorem SC_X11_put : ∀ c k, S_c_X11_put c k → bD c = false := fun c k h => by simp only [S_c_X11_put, or_false] at h; exact bDn (by omega) (by omega)
theorem SD_X12_put : ∀ c k, S_c_X12_put c k → bD c = true := fun c k h => by simp only [S_c_X12_put, or_false] at h; exact bDy (by omega)
theorem SC_X11_move : ∀ c k, S_c_X11_move c k → bD c = false := fun c k h => by simp only [S_c_X11_move, or_false] at h; exact bDn (by omega) (by omega)
theorem SD_X12_move : ∀ c k, S_c_X12_move c k → bD c = true := fun c k h => by simp only [S_c_X12_move, or_false] at h; exact bDy (by omega)
theorem SC_X11_image : ∀ c k, S_c_X11_image c k → bD c = false := fun c k h => by simp only [S_c_X11_image, or_false] at h; exact bDn (by omega) (by omega)
theorem SD_X12_image : ∀ c k, S_c_X12_image c k → bD c = true := fun c k h => by simp only [S_c_X12_image, or_false] at h; exact bDy (by omega)
theorem SC_X11_restore : ∀ c k, S_c_X11_restore c k → bD c = false := fun c k h => by simp only [S_c_X11_restore, or_false] at h; exact bDn (by omega) (by omega)
theorem SD_X12_restore : ∀ c k, S_c_X12_restore c k → bD c = true := fun c k h => by simp only [S_c_X12_restore, or_false] at h; exact bDy (by omega)
theorem SC_X11_tell : ∀ c k, S_c_X11_tell c k → bD c = false := fun c k h => by simp only [S_c_X11_tell, or_false] at h; exact bDn (by omega) (by omega)
theorem SD_X12_tell : ∀ c k, S_c_X12_tell c k → bD c = true := fun c k h => by simp only [S_c_X12_tell, or_false] at h; exact bDy (by omega)
theorem SC_X11_check : ∀ c k, S_c_X11_check c k → bD c = false := fun c k h => by simp only [S_c_X11_check, or_false] at h; exact bDn (by omega) (by omega)
theorem SD_X12_check : ∀ c k, S_c_X12_check c k → bD c = true := fun c k h => by simp only [S_c_X12_check, or_false] at h; exact bDy (by omega)
theorem SC_X11_count : ∀ c k, S_c_X11_count c k → bD c = false := fun c k h => by simp only [S_c_X11_count, or_false] at h; exact bDn (by omega) (by omega)
theorem SD_X12_count : ∀ c k, S_c_X12_count c k → bD c = true := fun c k h => by simp only [S_c_X12_count, or_false] at h; exact bDy (by omega)
theorem SC_X11_told : ∀ c k, S_c_X11_told c k → bD c = false := fun c k h => by simp only [S_c_X11_told, or_false] at h; exact bDn (by omega) (by omega)
theorem SD_X12_told : ∀ c k, S_c_X12_told c k → bD c = true := fun c k h => by simp only [S_c_X12_told, or_false] at h; exact bDy (by omega)
