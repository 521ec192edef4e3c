theorem KST_X12_clicks_35 {v : Int32} {Mz : mM} {z8_ : Int32} {v4_35 : Int32} {v3_35 : Int32} {M_35 : mM} {v4_35y : Int32} {v3_35y : Int32} {M_35y : mM} (h : ST_X12_clicks_35 v Mz z8_ v4_35 v3_35 M_35 v4_35y v3_35y M_35y) (h12_ : 0 ≤ z8_.toInt ∧ z8_.toInt ≤ 191) (hv : 0 ≤ v.toInt ∧ v.toInt ≤ 7) : kq [] M_35 M_35y := by
  unfold ST_X12_clicks_35 at h
  rcases h with ⟨hv0_35, hv1_35, -, hF_35, h33_, M35_, -, hF39_, r34_, hs41_, h37_, v6_55, hv0_55, M_55, hL_55, -, hF_55, h43_, (⟨h44_, z45_, h46_, hq_v4_35y, hq_v3_35y, hM_⟩ | ⟨h44_, r47_, hs51_, h50_, r52_, hs56_, h55_, M57_, -, hF61_, hs63_, z64_, h65_, z66_, h67_, hq_v4_35y, hq_v3_35y, hM_⟩)⟩
  · rw [hM_]
    have l0_ := rind hL_55 (fun z_ => kq [] M35_ z_.2) kq.refl (fun x_ z_ h1_ h2_ => kq.trans h1_ ((KST_X12_clicks_55 h2_ (by omega) (by omega) (by omega) (by omega)).mono (by decide)))
    exact kq.trans (kq_FR hF39_ (by intro j q; simp [S_c_X12_heardFrom] at q)) (show kq [] M35_ M_55 from l0_)
  · rw [hM_]
    have l0_ := rind hL_55 (fun z_ => kq [] M35_ z_.2) kq.refl (fun x_ z_ h1_ h2_ => kq.trans h1_ ((KST_X12_clicks_55 h2_ (by omega) (by omega) (by omega) (by omega)).mono (by decide)))
    exact kq.trans (kq.trans (kq_FR hF39_ (by intro j q; simp [S_c_X12_heardFrom] at q)) (show kq [] M35_ M_55 from l0_)) ((KSP_X12_more hs63_ (by omega)).mono (by decide))
