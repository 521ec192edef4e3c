theorem KSP_X12_walkerGoes {v : Int32} {Mz : mM} {M_ : mM} (h : SP_X12_walkerGoes v Mz M_) (hv : 0 ≤ v.toInt ∧ v.toInt ≤ 7) : kq [] Mz M_ := by
  unfold SP_X12_walkerGoes at h
  rcases h with ⟨r1_, hs5_, h4_, z6_, h7_, j10_, h11_, z8_, e9_, z12_, h13_, j16_, h17_, z14_, e15_, (⟨h18_, (⟨h19_, M21_, -, hF25_, r20_, hs27_, (⟨h28_, z29_, h30_, z31_, h32_, j35_, h36_, z33_, e34_, h37_, (⟨h38_, (⟨h39_, z40_, h41_, z42_, h44_, h43_, j47_, h48_, M45_, hM46_, hM_⟩ | ⟨h39_, z51_, h52_, z53_, h55_, h54_, j58_, h59_, M56_, hM57_, hM_⟩)⟩ | ⟨h38_, z62_, h63_, z64_, h66_, h65_, j69_, h70_, M67_, hM68_, hM_⟩)⟩ | ⟨h28_, M73_, -, hF77_, hs79_, hM_⟩)⟩ | ⟨h19_, z80_, e81_, z82_, h83_, (⟨h84_, M86_, -, hF90_, r85_, hs92_, (⟨h93_, z94_, h95_, z96_, h97_, j100_, h101_, z98_, e99_, h102_, (⟨h103_, (⟨h104_, z105_, h106_, z107_, h109_, h108_, j112_, h113_, M110_, hM111_, hM_⟩ | ⟨h104_, z116_, h117_, z118_, h120_, h119_, j123_, h124_, M121_, hM122_, hM_⟩)⟩ | ⟨h103_, z127_, h128_, z129_, h131_, h130_, j134_, h135_, M132_, hM133_, hM_⟩)⟩ | ⟨h93_, M138_, -, hF142_, hs144_, hM_⟩)⟩ | ⟨h84_, r145_, hs149_, h148_, r150_, hs154_, h153_, (⟨h155_, M157_, -, hF161_, r156_, hs163_, (⟨h164_, z165_, h166_, z167_, h168_, j171_, h172_, z169_, e170_, h173_, (⟨h174_, (⟨h175_, z176_, h177_, z178_, h180_, h179_, j183_, h184_, M181_, hM182_, hM_⟩ | ⟨h175_, z187_, h188_, z189_, h191_, h190_, j194_, h195_, M192_, hM193_, hM_⟩)⟩ | ⟨h174_, z198_, h199_, z200_, h202_, h201_, j205_, h206_, M203_, hM204_, hM_⟩)⟩ | ⟨h164_, M209_, -, hF213_, hs215_, hM_⟩)⟩ | ⟨h155_, M217_, -, hF221_, r216_, hs223_, M225_, -, hF229_, r224_, hs231_, (⟨h232_, z233_, h234_, z235_, h236_, j239_, h240_, z237_, e238_, h241_, (⟨h242_, (⟨h243_, z244_, h245_, z246_, h248_, h247_, j251_, h252_, M249_, hM250_, hM_⟩ | ⟨h243_, z255_, h256_, z257_, h259_, h258_, j262_, h263_, M260_, hM261_, hM_⟩)⟩ | ⟨h242_, z266_, h267_, z268_, h270_, h269_, j273_, h274_, M271_, hM272_, hM_⟩)⟩ | ⟨h232_, M277_, -, hF281_, hs283_, hM_⟩)⟩)⟩)⟩)⟩ | ⟨h18_, hM_⟩)⟩
  · rw [hM_]
    exact kq.trans (kq_FR hF25_ (by intro j q; simp [S_c_X12_habitOf] at q)) (kq_up hM46_ (Or.inl (by omega)))
  · rw [hM_]
    exact kq.trans (kq_FR hF25_ (by intro j q; simp [S_c_X12_habitOf] at q)) (kq_up hM57_ (Or.inl (by omega)))
  · rw [hM_]
    exact kq.trans (kq_FR hF25_ (by intro j q; simp [S_c_X12_habitOf] at q)) (kq_up hM68_ (Or.inl (by omega)))
  · rw [hM_]
    exact kq.trans (kq_FR hF25_ (by intro j q; simp [S_c_X12_habitOf] at q)) ((KSP_X12_goesOn hs79_ (by omega)).mono (by decide))
  · rw [hM_]
    exact kq.trans (kq_FR hF90_ (by intro j q; simp [S_c_X12_habitOf] at q)) (kq_up hM111_ (Or.inl (by omega)))
  · rw [hM_]
    exact kq.trans (kq_FR hF90_ (by intro j q; simp [S_c_X12_habitOf] at q)) (kq_up hM122_ (Or.inl (by omega)))
  · rw [hM_]
    exact kq.trans (kq_FR hF90_ (by intro j q; simp [S_c_X12_habitOf] at q)) (kq_up hM133_ (Or.inl (by omega)))
  · rw [hM_]
    exact kq.trans (kq_FR hF90_ (by intro j q; simp [S_c_X12_habitOf] at q)) ((KSP_X12_goesOn hs144_ (by omega)).mono (by decide))
  · rw [hM_]
    exact kq.trans (kq_FR hF161_ (by intro j q; simp [S_c_X12_habitOf] at q)) (kq_up hM182_ (Or.inl (by omega)))
  · rw [hM_]
    exact kq.trans (kq_FR hF161_ (by intro j q; simp [S_c_X12_habitOf] at q)) (kq_up hM193_ (Or.inl (by omega)))
  · rw [hM_]
    exact kq.trans (kq_FR hF161_ (by intro j q; simp [S_c_X12_habitOf] at q)) (kq_up hM204_ (Or.inl (by omega)))
  · rw [hM_]
    exact kq.trans (kq_FR hF161_ (by intro j q; simp [S_c_X12_habitOf] at q)) ((KSP_X12_goesOn hs215_ (by omega)).mono (by decide))
  · rw [hM_]
    exact kq.trans (kq.trans ((KSP_X12_clicks hs223_ (by omega)).mono (by decide)) (kq_FR hF229_ (by intro j q; simp [S_c_X12_habitOf] at q))) (kq_up hM250_ (Or.inl (by omega)))
  · rw [hM_]
    exact kq.trans (kq.trans ((KSP_X12_clicks hs223_ (by omega)).mono (by decide)) (kq_FR hF229_ (by intro j q; simp [S_c_X12_habitOf] at q))) (kq_up hM261_ (Or.inl (by omega)))
  · rw [hM_]
    exact kq.trans (kq.trans ((KSP_X12_clicks hs223_ (by omega)).mono (by decide)) (kq_FR hF229_ (by intro j q; simp [S_c_X12_habitOf] at q))) (kq_up hM272_ (Or.inl (by omega)))
  · rw [hM_]
    exact kq.trans (kq.trans ((KSP_X12_clicks hs223_ (by omega)).mono (by decide)) (kq_FR hF229_ (by intro j q; simp [S_c_X12_habitOf] at q))) ((KSP_X12_goesOn hs283_ (by omega)).mono (by decide))
  · rw [hM_]
    exact kq.refl
