def xx_put (F : Nat) (S : vS) (v1 : Int32) (v2 : Int32) : Option (Int32 × vS) := (X11_put (S.1 5) (S.1 15) (S.2.2.1 6) v1 v2).map fun u => (u.1, (sA (sI S 5 u.2.1) 6 u.2.2))
set_option maxHeartbeats 8000000 in
set_option maxRecDepth 100000 in
theorem cxx_put (l : Launch) (E : vE) (F : Nat) (a : Nat → Nat) (S : vS) (v1 : Int32) (v2 : Int32) (r : Int32) (S2 : vS) (h : xx_put F S v1 v2 = some (r, S2)) : CtI l yX11_put cX11_put 3 (some .int) 3 E [.ref (a 0), .int v1, .int v2] (wf_X11 E a S) (wf_X11 E a S2) r := by
  unfold xx_put at h
  obtain ⟨u, hu, h2⟩ := mp_some h
  cases h2
  exact CtI.frame (ct_X11_put l E (a 0) (a 1) (a 19) (a 37) (a 92) (a 94) (a 113) (a 117) (a 121) (a 124) (a 126) (a 130) (a 2) (a 7) (a 11) (a 13) (a 15) (a 17) (a 14) (S.1 0) (S.1 1) (S.1 2) (S.1 3) (S.1 4) (S.1 5) (S.2.1 0) (S.2.1 1) (S.1 6) (S.1 7) (S.1 8) (S.1 9) (S.1 10) (S.1 15) (S.2.2.1 6) v1 v2 u hu) [0, 1, 13, 14] rfl (by decide +kernel) rfl rfl
def xx_raise (F : Nat) (S : vS) (v1 : Int32) (v2 : Int32) : Option (Int32 × vS) := (X11_raise (S.1 5) (S.1 15) (S.2.2.1 6) v1 v2).map fun u => (u.1, (sA (sI S 5 u.2.1) 6 u.2.2))
set_option maxHeartbeats 8000000 in
set_option maxRecDepth 100000 in
theorem cxx_raise (l : Launch) (E : vE) (F : Nat) (a : Nat → Nat) (S : vS) (v1 : Int32) (v2 : Int32) (r : Int32) (S2 : vS) (h : xx_raise F S v1 v2 = some (r, S2)) : CtI l yX11_raise cX11_raise 3 (some .boolean) 2 E [.ref (a 0), .int v1, .int v2] (wf_X11 E a S) (wf_X11 E a S2) r := by
  unfold xx_raise at h
  obtain ⟨u, hu, h2⟩ := mp_some h
  cases h2
  exact CtI.frame (ct_X11_raise l E (a 0) (a 1) (a 19) (a 37) (a 92) (a 94) (a 113) (a 117) (a 121) (a 124) (a 126) (a 130) (a 2) (a 7) (a 11) (a 13) (a 15) (a 17) (a 14) (S.1 0) (S.1 1) (S.1 2) (S.1 3) (S.1 4) (S.1 5) (S.2.1 0) (S.2.1 1) (S.1 6) (S.1 7) (S.1 8) (S.1 9) (S.1 10) (S.1 15) (S.2.2.1 6) v1 v2 u hu) [0, 1, 13, 14] rfl (by decide +kernel) rfl rfl
def xx_plan (F : Nat) (S : vS) (v1 : Int32) (v2 : Int32) (v3 : Int32) : Option (Int32 × vS) := (X11_plan F (S.1 5) (S.1 11) (S.1 15) (S.2.2.1 6) v1 v2 v3).map fun u => (u.1, (sA (sI (sI S 5 u.2.1) 15 u.2.2.1) 6 u.2.2.2))
set_option maxHeartbeats 8000000 in
set_option maxRecDepth 100000 in
theorem cxx_plan (l : Launch) (E : vE) (F : Nat) (a : Nat → Nat) (S : vS) (v1 : Int32) (v2 : Int32) (v3 : Int32) (r : Int32) (S2 : vS) (h : xx_plan F S v1 v2 v3 = some (r, S2)) : CtI l yX11_plan cX11_plan 4 (some .int) 3 E [.ref (a 0), .int v1, .int v2, .int v3] (wf_X11 E a S) (wf_X11 E a S2) r := by
  unfold xx_plan at h
  obtain ⟨u, hu, h2⟩ := mp_some h
  cases h2
  exact CtI.frame (ct_X11_plan l E F (a 0) (a 1) (a 19) (a 37) (a 92) (a 94) (a 113) (a 117) (a 121) (a 124) (a 126) (a 130) (a 2) (a 7) (a 11) (a 13) (a 15) (a 17) (a 3) (a 5) (a 6) (a 14) (S.1 0) (S.1 1) (S.1 2) (S.1 3) (S.1 4) (S.1 5) (S.2.1 0) (S.2.1 1) (S.1 6) (S.1 7) (S.1 8) (S.1 9) (S.1 10) (S.1 11) (S.1 15) (S.2.2.1 6) v1 v2 v3 u hu) [0, 1, 2, 13, 14] rfl (by decide +kernel) rfl rfl
def xx_bear (F : Nat) (S : vS) (v1 : Int32) : Option (Int32 × vS) := (X11_bear F (S.1 5) (S.1 11) (S.1 14) (S.2.2.1 5) v1).map fun u => (u.1, (sA (sI (sI S 5 u.2.1) 14 u.2.2.1) 5 u.2.2.2))
set_option maxHeartbeats 8000000 in
set_option maxRecDepth 100000 in
theorem cxx_bear (l : Launch) (E : vE) (F : Nat) (a : Nat → Nat) (S : vS) (v1 : Int32) (r : Int32) (S2 : vS) (h : xx_bear F S v1 = some (r, S2)) : CtI l yX11_bear cX11_bear 2 (some .int) 3 E [.ref (a 0), .int v1] (wf_X11 E a S) (wf_X11 E a S2) r := by
  unfold xx_bear at h
  obtain ⟨u, hu, h2⟩ := mp_some h
  cases h2
  exact CtI.frame (ct_X11_bear l E F (a 0) (a 1) (a 19) (a 37) (a 92) (a 94) (a 113) (a 117) (a 121) (a 124) (a 126) (a 130) (a 2) (a 7) (a 11) (a 13) (a 15) (a 17) (a 3) (a 5) (a 6) (a 12) (S.1 0) (S.1 1) (S.1 2) (S.1 3) (S.1 4) (S.1 5) (S.2.1 0) (S.2.1 1) (S.1 6) (S.1 7) (S.1 8) (S.1 9) (S.1 10) (S.1 11) (S.1 14) (S.2.2.1 5) v1 u hu) [0, 1, 2, 11, 12] rfl (by decide +kernel) rfl rfl
def xx_post (F : Nat) (S : vS) (v1 : Int32) (v2 : Int32) : Option (Int32 × vS) := (X11_post (S.1 5) (S.1 11) (S.1 16) (S.2.2.1 7) v1 v2).map fun u => (u.1, (sA (sI S 5 u.2.1) 7 u.2.2))
set_option maxHeartbeats 8000000 in
set_option maxRecDepth 100000 in
theorem cxx_post (l : Launch) (E : vE) (F : Nat) (a : Nat → Nat) (S : vS) (v1 : Int32) (v2 : Int32) (r : Int32) (S2 : vS) (h : xx_post F S v1 v2 = some (r, S2)) : CtI l yX11_post cX11_post 3 (some .boolean) 2 E [.ref (a 0), .int v1, .int v2] (wf_X11 E a S) (wf_X11 E a S2) r := by
  unfold xx_post at h
  obtain ⟨u, hu, h2⟩ := mp_some h
  cases h2
  exact CtI.frame (ct_X11_post l E (a 0) (a 1) (a 19) (a 37) (a 92) (a 94) (a 113) (a 117) (a 121) (a 124) (a 126) (a 130) (a 2) (a 7) (a 11) (a 13) (a 15) (a 17) (a 3) (a 5) (a 6) (a 16) (S.1 0) (S.1 1) (S.1 2) (S.1 3) (S.1 4) (S.1 5) (S.2.1 0) (S.2.1 1) (S.1 6) (S.1 7) (S.1 8) (S.1 9) (S.1 10) (S.1 11) (S.1 16) (S.2.2.1 7) v1 v2 u hu) [0, 1, 2, 15, 16] rfl (by decide +kernel) rfl rfl
def xx_scare (F : Nat) (S : vS) (v1 : Int32) (v2 : Int32) : Option (Int32 × vS) := (X11_scare (S.1 5) (S.1 16) (S.2.2.1 7) v1 v2).map fun u => (u.1, (sA (sI S 5 u.2.1) 7 u.2.2))
set_option maxHeartbeats 8000000 in
set_option maxRecDepth 100000 in
theorem cxx_scare (l : Launch) (E : vE) (F : Nat) (a : Nat → Nat) (S : vS) (v1 : Int32) (v2 : Int32) (r : Int32) (S2 : vS) (h : xx_scare F S v1 v2 = some (r, S2)) : CtI l yX11_scare cX11_scare 3 (some .boolean) 2 E [.ref (a 0), .int v1, .int v2] (wf_X11 E a S) (wf_X11 E a S2) r := by
  unfold xx_scare at h
  obtain ⟨u, hu, h2⟩ := mp_some h
  cases h2
  exact CtI.frame (ct_X11_scare l E (a 0) (a 1) (a 19) (a 37) (a 92) (a 94) (a 113) (a 117) (a 121) (a 124) (a 126) (a 130) (a 2) (a 7) (a 11) (a 13) (a 15) (a 17) (a 16) (S.1 0) (S.1 1) (S.1 2) (S.1 3) (S.1 4) (S.1 5) (S.2.1 0) (S.2.1 1) (S.1 6) (S.1 7) (S.1 8) (S.1 9) (S.1 10) (S.1 16) (S.2.2.1 7) v1 v2 u hu) [0, 1, 15, 16] rfl (by decide +kernel) rfl rfl
def xx_rule (F : Nat) (S : vS) (v1 : Int32) (v2 : Int32) : Option (Int32 × vS) := (X11_rule (S.1 5) (S.1 6) (S.1 7) (S.1 8) v1 v2).map fun u => (u.1, (sI (sI (sI (sI S 5 u.2.1) 6 u.2.2.1) 7 u.2.2.2.1) 8 u.2.2.2.2))
set_option maxHeartbeats 8000000 in
set_option maxRecDepth 100000 in
theorem cxx_rule (l : Launch) (E : vE) (F : Nat) (a : Nat → Nat) (S : vS) (v1 : Int32) (v2 : Int32) (r : Int32) (S2 : vS) (h : xx_rule F S v1 v2 = some (r, S2)) : CtI l yX11_rule cX11_rule 3 (some .boolean) 1 E [.ref (a 0), .int v1, .int v2] (wf_X11 E a S) (wf_X11 E a S2) r := by
  unfold xx_rule at h
  obtain ⟨u, hu, h2⟩ := mp_some h
  cases h2
  exact CtI.frame (ct_X11_rule l E (a 0) (a 1) (a 19) (a 37) (a 92) (a 94) (a 113) (a 117) (a 121) (a 124) (a 126) (a 130) (a 2) (a 7) (a 11) (a 13) (a 15) (a 17) (S.1 0) (S.1 1) (S.1 2) (S.1 3) (S.1 4) (S.1 5) (S.2.1 0) (S.2.1 1) (S.1 6) (S.1 7) (S.1 8) (S.1 9) (S.1 10) v1 v2 u hu) [0, 1] rfl (by decide +kernel) rfl rfl
def xx_far (F : Nat) (S : vS) (v1 : Int32) (v2 : Int32) : Option (Int32 × vS) := (X11_far (S.1 5) (S.1 11) (S.2.2.1 2) v1 v2).map fun u => (u.1, (sI S 5 u.2))
set_option maxHeartbeats 8000000 in
set_option maxRecDepth 100000 in
theorem cxx_far (l : Launch) (E : vE) (F : Nat) (a : Nat → Nat) (S : vS) (v1 : Int32) (v2 : Int32) (r : Int32) (S2 : vS) (h : xx_far F S v1 v2 = some (r, S2)) : CtI l yX11_far cX11_far 4 (some .int) 2 E [.ref (a 0), .int v1, .int v2] (wf_X11 E a S) (wf_X11 E a S2) r := by
  unfold xx_far at h
  obtain ⟨u, hu, h2⟩ := mp_some h
  cases h2
  exact CtI.frame (ct_X11_far l E (a 0) (a 1) (a 19) (a 37) (a 92) (a 94) (a 113) (a 117) (a 121) (a 124) (a 126) (a 130) (a 2) (a 7) (a 11) (a 13) (a 15) (a 17) (a 3) (a 5) (a 6) (S.1 0) (S.1 1) (S.1 2) (S.1 3) (S.1 4) (S.1 5) (S.2.1 0) (S.2.1 1) (S.1 6) (S.1 7) (S.1 8) (S.1 9) (S.1 10) (S.1 11) (S.2.2.1 2) v1 v2 u hu) [0, 1, 2, 6] rfl (by decide +kernel) rfl rfl
def xx_way (F : Nat) (S : vS) (v1 : Int32) (v2 : Int32) : Option (Int32 × vS) := (X11_way F (S.1 5) (S.1 11) (S.2.2.1 1) (S.2.2.1 2) v1 v2).map fun u => (u.1, (sI S 5 u.2))
set_option maxHeartbeats 8000000 in
set_option maxRecDepth 100000 in
theorem cxx_way (l : Launch) (E : vE) (F : Nat) (a : Nat → Nat) (S : vS) (v1 : Int32) (v2 : Int32) (r : Int32) (S2 : vS) (h : xx_way F S v1 v2 = some (r, S2)) : CtI l yX11_way cX11_way 4 (some .int) 3 E [.ref (a 0), .int v1, .int v2] (wf_X11 E a S) (wf_X11 E a S2) r := by
  unfold xx_way at h
  obtain ⟨u, hu, h2⟩ := mp_some h
  cases h2
  exact CtI.frame (ct_X11_way l E F (a 0) (a 1) (a 19) (a 37) (a 92) (a 94) (a 113) (a 117) (a 121) (a 124) (a 126) (a 130) (a 2) (a 7) (a 11) (a 13) (a 15) (a 17) (a 3) (a 5) (a 6) (S.1 0) (S.1 1) (S.1 2) (S.1 3) (S.1 4) (S.1 5) (S.2.1 0) (S.2.1 1) (S.1 6) (S.1 7) (S.1 8) (S.1 9) (S.1 10) (S.1 11) (S.2.2.1 1) (S.2.2.1 2) v1 v2 u hu) [0, 1, 2, 5, 6] rfl (by decide +kernel) rfl rfl
def xx_centre (F : Nat) (S : vS) : Option (Int32 × vS) := (X11_centre F (S.1 5) (S.1 11) (S.2.2.1 2)).map fun u => (u.1, (sI S 5 u.2))
set_option maxHeartbeats 8000000 in
set_option maxRecDepth 100000 in
theorem cxx_centre (l : Launch) (E : vE) (F : Nat) (a : Nat → Nat) (S : vS) (r : Int32) (S2 : vS) (h : xx_centre F S = some (r, S2)) : CtI l yX11_centre cX11_centre 2 (some .int) 4 E [.ref (a 0)] (wf_X11 E a S) (wf_X11 E a S2) r := by
  unfold xx_centre at h
  obtain ⟨u, hu, h2⟩ := mp_some h
  cases h2
  exact CtI.frame (ct_X11_centre l E F (a 0) (a 1) (a 19) (a 37) (a 92) (a 94) (a 113) (a 117) (a 121) (a 124) (a 126) (a 130) (a 2) (a 7) (a 11) (a 13) (a 15) (a 17) (a 3) (a 5) (a 6) (S.1 0) (S.1 1) (S.1 2) (S.1 3) (S.1 4) (S.1 5) (S.2.1 0) (S.2.1 1) (S.1 6) (S.1 7) (S.1 8) (S.1 9) (S.1 10) (S.1 11) (S.2.2.1 2) u hu) [0, 1, 2, 6] rfl (by decide +kernel) rfl rfl
def xx_cut (F : Nat) (S : vS) (v1 : Int32) (v2 : Int32) : Option (Int32 × vS) := (X11_cut F (S.1 5) (S.1 11) (S.1 12) (S.2.2.1 0) v1 v2).map fun u => (u.1, (sI S 5 u.2))
set_option maxHeartbeats 8000000 in
set_option maxRecDepth 100000 in
theorem cxx_cut (l : Launch) (E : vE) (F : Nat) (a : Nat → Nat) (S : vS) (v1 : Int32) (v2 : Int32) (r : Int32) (S2 : vS) (h : xx_cut F S v1 v2 = some (r, S2)) : CtI l yX11_cut cX11_cut 3 (some .int) 3 E [.ref (a 0), .int v1, .int v2] (wf_X11 E a S) (wf_X11 E a S2) r := by
  unfold xx_cut at h
  obtain ⟨u, hu, h2⟩ := mp_some h
  cases h2
  exact CtI.frame (ct_X11_cut l E F (a 0) (a 1) (a 19) (a 37) (a 92) (a 94) (a 113) (a 117) (a 121) (a 124) (a 126) (a 130) (a 2) (a 7) (a 11) (a 13) (a 15) (a 17) (a 3) (a 5) (a 6) (a 4) (S.1 0) (S.1 1) (S.1 2) (S.1 3) (S.1 4) (S.1 5) (S.2.1 0) (S.2.1 1) (S.1 6) (S.1 7) (S.1 8) (S.1 9) (S.1 10) (S.1 11) (S.1 12) (S.2.2.1 0) v1 v2 u hu) [0, 1, 2, 3, 4] rfl (by decide +kernel) rfl rfl
def xx_goal (F : Nat) (S : vS) (v1 : Int32) : Option (Int32 × vS) := (X11_goal F (S.1 5) (S.1 14) (S.2.2.1 5) (S.1 15) (S.2.2.1 6) v1).map fun u => (u.1, (sI S 5 u.2))
set_option maxHeartbeats 8000000 in
set_option maxRecDepth 100000 in
theorem cxx_goal (l : Launch) (E : vE) (F : Nat) (a : Nat → Nat) (S : vS) (v1 : Int32) (r : Int32) (S2 : vS) (h : xx_goal F S v1 = some (r, S2)) : CtI l yX11_goal cX11_goal 3 (some .int) 4 E [.ref (a 0), .int v1] (wf_X11 E a S) (wf_X11 E a S2) r := by
  unfold xx_goal at h
  obtain ⟨u, hu, h2⟩ := mp_some h
  cases h2
  exact CtI.frame (ct_X11_goal l E F (a 0) (a 1) (a 19) (a 37) (a 92) (a 94) (a 113) (a 117) (a 121) (a 124) (a 126) (a 130) (a 2) (a 7) (a 11) (a 13) (a 15) (a 17) (a 12) (a 14) (S.1 0) (S.1 1) (S.1 2) (S.1 3) (S.1 4) (S.1 5) (S.2.1 0) (S.2.1 1) (S.1 6) (S.1 7) (S.1 8) (S.1 9) (S.1 10) (S.1 14) (S.2.2.1 5) (S.1 15) (S.2.2.1 6) v1 u hu) [0, 1, 11, 12, 13, 14] rfl (by decide +kernel) rfl rfl
def xx_whereIn (F : Nat) (S : vS) (v1 : Int32) (v2 : Int32) : Option (Int32 × vS) := (X11_whereIn F (S.1 5) (S.1 6) (S.1 7) (S.1 8) (S.1 9) (S.1 10) (S.1 11) (S.1 12) (S.2.2.1 0) (S.2.2.1 1) (S.2.2.1 2) (S.1 13) (S.2.2.2 0) (S.2.2.1 3) (S.2.2.1 4) (S.1 14) (S.2.2.1 5) (S.1 15) (S.2.2.1 6) (S.1 16) (S.2.2.1 7) (S.1 17) (S.2.2.1 8) (S.1 18) (S.1 19) (S.1 20) (S.1 21) (S.1 22) (S.1 23) (S.1 24) (S.2.2.1 9) (S.2.2.1 10) (S.2.2.1 11) (S.1 25) (S.2.2.2 1) (S.2.2.1 12) (S.2.2.1 13) (S.1 26) (S.2.2.1 14) (S.1 27) (S.2.2.1 15) (S.1 28) (S.2.2.1 16) (S.1 29) (S.2.2.1 17) v1 v2).map fun u => ((u.1 0), (sA (sI (sA (sI (sA (sI (sA (sI (sA (sA (sB (sI (sA (sA (sA (sI (sI (sI (sI (sI (sI (sI (sI S 5 (u.1 1)) 18 (u.1 2)) 19 (u.1 3)) 20 (u.1 4)) 21 (u.1 5)) 22 (u.1 6)) 23 (u.1 7)) 24 (u.1 8)) 9 (u.2.2.1 0)) 10 (u.2.2.1 1)) 11 (u.2.2.1 2)) 25 (u.1 9)) 1 (u.2.2.2 0)) 12 (u.2.2.1 3)) 13 (u.2.2.1 4)) 26 (u.1 10)) 14 (u.2.2.1 5)) 27 (u.1 11)) 15 (u.2.2.1 6)) 28 (u.1 12)) 16 (u.2.2.1 7)) 29 (u.1 13)) 17 (u.2.2.1 8)))
set_option maxHeartbeats 8000000 in
set_option maxRecDepth 100000 in
theorem cxx_whereIn (l : Launch) (E : vE) (F : Nat) (a : Nat → Nat) (S : vS) (v1 : Int32) (v2 : Int32) (r : Int32) (S2 : vS) (h : xx_whereIn F S v1 v2 = some (r, S2)) : CtI l yX11_whereIn cX11_whereIn 3 (some .int) 6 E [.ref (a 0), .int v1, .int v2] (wf_X11 E a S) (wf_X11 E a S2) r := by
  unfold xx_whereIn at h
  obtain ⟨u, hu, h2⟩ := mp_some h
  cases h2
  exact CtI.frame (ct_X11_whereIn l E F (a 0) (a 1) (a 19) (a 37) (a 92) (a 94) (a 113) (a 117) (a 121) (a 124) (a 126) (a 130) (a 2) (a 7) (a 11) (a 13) (a 15) (a 17) (a 3) (a 5) (a 6) (a 4) (a 8) (a 9) (a 10) (a 12) (a 14) (a 16) (a 18) (a 20) (a 25) (a 29) (a 31) (a 33) (a 35) (a 21) (a 23) (a 24) (a 22) (a 26) (a 27) (a 28) (a 30) (a 32) (a 34) (a 36) (S.1 0) (S.1 1) (S.1 2) (S.1 3) (S.1 4) (S.1 5) (S.2.1 0) (S.2.1 1) (S.1 6) (S.1 7) (S.1 8) (S.1 9) (S.1 10) (S.1 11) (S.1 12) (S.2.2.1 0) (S.2.2.1 1) (S.2.2.1 2) (S.1 13) (S.2.2.2 0) (S.2.2.1 3) (S.2.2.1 4) (S.1 14) (S.2.2.1 5) (S.1 15) (S.2.2.1 6) (S.1 16) (S.2.2.1 7) (S.1 17) (S.2.2.1 8) (S.1 18) (S.1 19) (S.1 20) (S.1 21) (S.1 22) (S.1 23) (S.1 24) (S.2.2.1 9) (S.2.2.1 10) (S.2.2.1 11) (S.1 25) (S.2.2.2 1) (S.2.2.1 12) (S.2.2.1 13) (S.1 26) (S.2.2.1 14) (S.1 27) (S.2.2.1 15) (S.1 28) (S.2.2.1 16) (S.1 29) (S.2.2.1 17) v1 v2 u hu) [0, 1, 2, 3, 4, 5, 6, 7, 8, 9, 10, 11, 12, 13, 14, 15, 16, 17, 18, 19, 20, 21, 22, 23, 24, 25, 26, 27, 28, 29, 30, 31, 32, 33, 34, 35, 36] rfl (by decide +kernel) rfl rfl
def xx_standingIn (F : Nat) (S : vS) (v1 : Int32) (v2 : Int32) : Option (Int32 × vS) := (X11_standingIn F (S.1 5) (S.1 6) (S.1 7) (S.1 8) (S.1 9) (S.1 10) (S.1 11) (S.1 12) (S.2.2.1 0) (S.2.2.1 1) (S.2.2.1 2) (S.1 13) (S.2.2.2 0) (S.2.2.1 3) (S.2.2.1 4) (S.1 14) (S.2.2.1 5) (S.1 15) (S.2.2.1 6) (S.1 16) (S.2.2.1 7) (S.1 17) (S.2.2.1 8) (S.1 18) (S.1 19) (S.1 20) (S.1 21) (S.1 22) (S.1 23) (S.1 24) (S.2.2.1 9) (S.2.2.1 10) (S.2.2.1 11) (S.1 25) (S.2.2.2 1) (S.2.2.1 12) (S.2.2.1 13) (S.1 26) (S.2.2.1 14) (S.1 27) (S.2.2.1 15) (S.1 28) (S.2.2.1 16) (S.1 29) (S.2.2.1 17) v1 v2).map fun u => ((u.1 0), (sA (sI (sA (sI (sA (sI (sA (sI (sA (sA (sB (sI (sA (sA (sA (sI (sI (sI (sI (sI (sI (sI (sI S 5 (u.1 1)) 18 (u.1 2)) 19 (u.1 3)) 20 (u.1 4)) 21 (u.1 5)) 22 (u.1 6)) 23 (u.1 7)) 24 (u.1 8)) 9 (u.2.2.1 0)) 10 (u.2.2.1 1)) 11 (u.2.2.1 2)) 25 (u.1 9)) 1 (u.2.2.2 0)) 12 (u.2.2.1 3)) 13 (u.2.2.1 4)) 26 (u.1 10)) 14 (u.2.2.1 5)) 27 (u.1 11)) 15 (u.2.2.1 6)) 28 (u.1 12)) 16 (u.2.2.1 7)) 29 (u.1 13)) 17 (u.2.2.1 8)))
set_option maxHeartbeats 8000000 in
set_option maxRecDepth 100000 in
theorem cxx_standingIn (l : Launch) (E : vE) (F : Nat) (a : Nat → Nat) (S : vS) (v1 : Int32) (v2 : Int32) (r : Int32) (S2 : vS) (h : xx_standingIn F S v1 v2 = some (r, S2)) : CtI l yX11_standingIn cX11_standingIn 3 (some .int) 6 E [.ref (a 0), .int v1, .int v2] (wf_X11 E a S) (wf_X11 E a S2) r := by
  unfold xx_standingIn at h
  obtain ⟨u, hu, h2⟩ := mp_some h
  cases h2
  exact CtI.frame (ct_X11_standingIn l E F (a 0) (a 1) (a 19) (a 37) (a 92) (a 94) (a 113) (a 117) (a 121) (a 124) (a 126) (a 130) (a 2) (a 7) (a 11) (a 13) (a 15) (a 17) (a 3) (a 5) (a 6) (a 4) (a 8) (a 9) (a 10) (a 12) (a 14) (a 16) (a 18) (a 20) (a 25) (a 29) (a 31) (a 33) (a 35) (a 21) (a 23) (a 24) (a 22) (a 26) (a 27) (a 28) (a 30) (a 32) (a 34) (a 36) (S.1 0) (S.1 1) (S.1 2) (S.1 3) (S.1 4) (S.1 5) (S.2.1 0) (S.2.1 1) (S.1 6) (S.1 7) (S.1 8) (S.1 9) (S.1 10) (S.1 11) (S.1 12) (S.2.2.1 0) (S.2.2.1 1) (S.2.2.1 2) (S.1 13) (S.2.2.2 0) (S.2.2.1 3) (S.2.2.1 4) (S.1 14) (S.2.2.1 5) (S.1 15) (S.2.2.1 6) (S.1 16) (S.2.2.1 7) (S.1 17) (S.2.2.1 8) (S.1 18) (S.1 19) (S.1 20) (S.1 21) (S.1 22) (S.1 23) (S.1 24) (S.2.2.1 9) (S.2.2.1 10) (S.2.2.1 11) (S.1 25) (S.2.2.2 1) (S.2.2.1 12) (S.2.2.1 13) (S.1 26) (S.2.2.1 14) (S.1 27) (S.2.2.1 15) (S.1 28) (S.2.2.1 16) (S.1 29) (S.2.2.1 17) v1 v2 u hu) [0, 1, 2, 3, 4, 5, 6, 7, 8, 9, 10, 11, 12, 13, 14, 15, 16, 17, 18, 19, 20, 21, 22, 23, 24, 25, 26, 27, 28, 29, 30, 31, 32, 33, 34, 35, 36] rfl (by decide +kernel) rfl rfl
def xx_overIn (F : Nat) (S : vS) (v1 : Int32) : Option (Int32 × vS) := (X11_overIn F (S.1 5) (S.1 6) (S.1 7) (S.1 8) (S.1 9) (S.1 10) (S.1 11) (S.1 12) (S.2.2.1 0) (S.2.2.1 1) (S.2.2.1 2) (S.1 13) (S.2.2.2 0) (S.2.2.1 3) (S.2.2.1 4) (S.1 14) (S.2.2.1 5) (S.1 15) (S.2.2.1 6) (S.1 16) (S.2.2.1 7) (S.1 17) (S.2.2.1 8) (S.1 18) (S.1 19) (S.1 20) (S.1 21) (S.1 22) (S.1 23) (S.1 24) (S.2.2.1 9) (S.2.2.1 10) (S.2.2.1 11) (S.1 25) (S.2.2.2 1) (S.2.2.1 12) (S.2.2.1 13) (S.1 26) (S.2.2.1 14) (S.1 27) (S.2.2.1 15) (S.1 28) (S.2.2.1 16) (S.1 29) (S.2.2.1 17) v1).map fun u => ((u.1 0), (sA (sI (sA (sI (sA (sI (sA (sI (sA (sA (sB (sI (sA (sA (sA (sI (sI (sI (sI (sI (sI (sI (sI S 5 (u.1 1)) 18 (u.1 2)) 19 (u.1 3)) 20 (u.1 4)) 21 (u.1 5)) 22 (u.1 6)) 23 (u.1 7)) 24 (u.1 8)) 9 (u.2.2.1 0)) 10 (u.2.2.1 1)) 11 (u.2.2.1 2)) 25 (u.1 9)) 1 (u.2.2.2 0)) 12 (u.2.2.1 3)) 13 (u.2.2.1 4)) 26 (u.1 10)) 14 (u.2.2.1 5)) 27 (u.1 11)) 15 (u.2.2.1 6)) 28 (u.1 12)) 16 (u.2.2.1 7)) 29 (u.1 13)) 17 (u.2.2.1 8)))
set_option maxHeartbeats 8000000 in
set_option maxRecDepth 100000 in
theorem cxx_overIn (l : Launch) (E : vE) (F : Nat) (a : Nat → Nat) (S : vS) (v1 : Int32) (r : Int32) (S2 : vS) (h : xx_overIn F S v1 = some (r, S2)) : CtI l yX11_overIn cX11_overIn 2 (some .int) 6 E [.ref (a 0), .int v1] (wf_X11 E a S) (wf_X11 E a S2) r := by
  unfold xx_overIn at h
  obtain ⟨u, hu, h2⟩ := mp_some h
  cases h2
  exact CtI.frame (ct_X11_overIn l E F (a 0) (a 1) (a 19) (a 37) (a 92) (a 94) (a 113) (a 117) (a 121) (a 124) (a 126) (a 130) (a 2) (a 7) (a 11) (a 13) (a 15) (a 17) (a 3) (a 5) (a 6) (a 4) (a 8) (a 9) (a 10) (a 12) (a 14) (a 16) (a 18) (a 20) (a 25) (a 29) (a 31) (a 33) (a 35) (a 21) (a 23) (a 24) (a 22) (a 26) (a 27) (a 28) (a 30) (a 32) (a 34) (a 36) (S.1 0) (S.1 1) (S.1 2) (S.1 3) (S.1 4) (S.1 5) (S.2.1 0) (S.2.1 1) (S.1 6) (S.1 7) (S.1 8) (S.1 9) (S.1 10) (S.1 11) (S.1 12) (S.2.2.1 0) (S.2.2.1 1) (S.2.2.1 2) (S.1 13) (S.2.2.2 0) (S.2.2.1 3) (S.2.2.1 4) (S.1 14) (S.2.2.1 5) (S.1 15) (S.2.2.1 6) (S.1 16) (S.2.2.1 7) (S.1 17) (S.2.2.1 8) (S.1 18) (S.1 19) (S.1 20) (S.1 21) (S.1 22) (S.1 23) (S.1 24) (S.2.2.1 9) (S.2.2.1 10) (S.2.2.1 11) (S.1 25) (S.2.2.2 1) (S.2.2.1 12) (S.2.2.1 13) (S.1 26) (S.2.2.1 14) (S.1 27) (S.2.2.1 15) (S.1 28) (S.2.2.1 16) (S.1 29) (S.2.2.1 17) v1 u hu) [0, 1, 2, 3, 4, 5, 6, 7, 8, 9, 10, 11, 12, 13, 14, 15, 16, 17, 18, 19, 20, 21, 22, 23, 24, 25, 26, 27, 28, 29, 30, 31, 32, 33, 34, 35, 36] rfl (by decide +kernel) rfl rfl
def xx_becomes (F : Nat) (S : vS) (v1 : Int32) : Option (Int32 × vS) := (X11_becomes F (S.1 5) (S.1 6) (S.1 7) (S.1 8) (S.1 9) (S.1 10) (S.1 11) (S.1 12) (S.2.2.1 0) (S.2.2.1 1) (S.2.2.1 2) (S.1 13) (S.2.2.2 0) (S.2.2.1 3) (S.2.2.1 4) (S.1 14) (S.2.2.1 5) (S.1 15) (S.2.2.1 6) (S.1 16) (S.2.2.1 7) (S.1 17) (S.2.2.1 8) (S.1 18) (S.1 19) (S.1 20) (S.1 21) (S.1 22) (S.1 23) (S.1 24) (S.2.2.1 9) (S.2.2.1 10) (S.2.2.1 11) (S.1 25) (S.2.2.2 1) (S.2.2.1 12) (S.2.2.1 13) (S.1 26) (S.2.2.1 14) (S.1 27) (S.2.2.1 15) (S.1 28) (S.2.2.1 16) (S.1 29) (S.2.2.1 17) v1).map fun u => ((u.1 0), (sA (sI (sA (sI (sA (sI (sA (sI (sA (sA (sB (sI (sA (sA (sA (sI (sI (sI (sI (sI (sI (sI (sI S 5 (u.1 1)) 18 (u.1 2)) 19 (u.1 3)) 20 (u.1 4)) 21 (u.1 5)) 22 (u.1 6)) 23 (u.1 7)) 24 (u.1 8)) 9 (u.2.2.1 0)) 10 (u.2.2.1 1)) 11 (u.2.2.1 2)) 25 (u.1 9)) 1 (u.2.2.2 0)) 12 (u.2.2.1 3)) 13 (u.2.2.1 4)) 26 (u.1 10)) 14 (u.2.2.1 5)) 27 (u.1 11)) 15 (u.2.2.1 6)) 28 (u.1 12)) 16 (u.2.2.1 7)) 29 (u.1 13)) 17 (u.2.2.1 8)))
set_option maxHeartbeats 8000000 in
set_option maxRecDepth 100000 in
theorem cxx_becomes (l : Launch) (E : vE) (F : Nat) (a : Nat → Nat) (S : vS) (v1 : Int32) (r : Int32) (S2 : vS) (h : xx_becomes F S v1 = some (r, S2)) : CtI l yX11_becomes cX11_becomes 2 (some .int) 6 E [.ref (a 0), .int v1] (wf_X11 E a S) (wf_X11 E a S2) r := by
  unfold xx_becomes at h
  obtain ⟨u, hu, h2⟩ := mp_some h
  cases h2
  exact CtI.frame (ct_X11_becomes l E F (a 0) (a 1) (a 19) (a 37) (a 92) (a 94) (a 113) (a 117) (a 121) (a 124) (a 126) (a 130) (a 2) (a 7) (a 11) (a 13) (a 15) (a 17) (a 3) (a 5) (a 6) (a 4) (a 8) (a 9) (a 10) (a 12) (a 14) (a 16) (a 18) (a 20) (a 25) (a 29) (a 31) (a 33) (a 35) (a 21) (a 23) (a 24) (a 22) (a 26) (a 27) (a 28) (a 30) (a 32) (a 34) (a 36) (S.1 0) (S.1 1) (S.1 2) (S.1 3) (S.1 4) (S.1 5) (S.2.1 0) (S.2.1 1) (S.1 6) (S.1 7) (S.1 8) (S.1 9) (S.1 10) (S.1 11) (S.1 12) (S.2.2.1 0) (S.2.2.1 1) (S.2.2.1 2) (S.1 13) (S.2.2.2 0) (S.2.2.1 3) (S.2.2.1 4) (S.1 14) (S.2.2.1 5) (S.1 15) (S.2.2.1 6) (S.1 16) (S.2.2.1 7) (S.1 17) (S.2.2.1 8) (S.1 18) (S.1 19) (S.1 20) (S.1 21) (S.1 22) (S.1 23) (S.1 24) (S.2.2.1 9) (S.2.2.1 10) (S.2.2.1 11) (S.1 25) (S.2.2.2 1) (S.2.2.1 12) (S.2.2.1 13) (S.1 26) (S.2.2.1 14) (S.1 27) (S.2.2.1 15) (S.1 28) (S.2.2.1 16) (S.1 29) (S.2.2.1 17) v1 u hu) [0, 1, 2, 3, 4, 5, 6, 7, 8, 9, 10, 11, 12, 13, 14, 15, 16, 17, 18, 19, 20, 21, 22, 23, 24, 25, 26, 27, 28, 29, 30, 31, 32, 33, 34, 35, 36] rfl (by decide +kernel) rfl rfl
def xx_wagesIn (F : Nat) (S : vS) (v1 : Int32) (v2 : Int32) : Option (Int32 × vS) := (X11_wagesIn F (S.1 5) (S.1 6) (S.1 7) (S.1 8) (S.1 9) (S.1 10) (S.1 11) (S.1 12) (S.2.2.1 0) (S.2.2.1 1) (S.2.2.1 2) (S.1 13) (S.2.2.2 0) (S.2.2.1 3) (S.2.2.1 4) (S.1 14) (S.2.2.1 5) (S.1 15) (S.2.2.1 6) (S.1 16) (S.2.2.1 7) (S.1 17) (S.2.2.1 8) (S.1 18) (S.1 19) (S.1 20) (S.1 21) (S.1 22) (S.1 23) (S.1 24) (S.2.2.1 9) (S.2.2.1 10) (S.2.2.1 11) (S.1 25) (S.2.2.2 1) (S.2.2.1 12) (S.2.2.1 13) (S.1 26) (S.2.2.1 14) (S.1 27) (S.2.2.1 15) (S.1 28) (S.2.2.1 16) (S.1 29) (S.2.2.1 17) v1 v2).map fun u => ((u.1 0), (sA (sI (sA (sI (sA (sI (sA (sI (sA (sA (sB (sI (sA (sA (sA (sI (sI (sI (sI (sI (sI (sI (sI S 5 (u.1 1)) 18 (u.1 2)) 19 (u.1 3)) 20 (u.1 4)) 21 (u.1 5)) 22 (u.1 6)) 23 (u.1 7)) 24 (u.1 8)) 9 (u.2.2.1 0)) 10 (u.2.2.1 1)) 11 (u.2.2.1 2)) 25 (u.1 9)) 1 (u.2.2.2 0)) 12 (u.2.2.1 3)) 13 (u.2.2.1 4)) 26 (u.1 10)) 14 (u.2.2.1 5)) 27 (u.1 11)) 15 (u.2.2.1 6)) 28 (u.1 12)) 16 (u.2.2.1 7)) 29 (u.1 13)) 17 (u.2.2.1 8)))
set_option maxHeartbeats 8000000 in
set_option maxRecDepth 100000 in
theorem cxx_wagesIn (l : Launch) (E : vE) (F : Nat) (a : Nat → Nat) (S : vS) (v1 : Int32) (v2 : Int32) (r : Int32) (S2 : vS) (h : xx_wagesIn F S v1 v2 = some (r, S2)) : CtI l yX11_wagesIn cX11_wagesIn 3 (some .int) 6 E [.ref (a 0), .int v1, .int v2] (wf_X11 E a S) (wf_X11 E a S2) r := by
  unfold xx_wagesIn at h
  obtain ⟨u, hu, h2⟩ := mp_some h
  cases h2
  exact CtI.frame (ct_X11_wagesIn l E F (a 0) (a 1) (a 19) (a 37) (a 92) (a 94) (a 113) (a 117) (a 121) (a 124) (a 126) (a 130) (a 2) (a 7) (a 11) (a 13) (a 15) (a 17) (a 3) (a 5) (a 6) (a 4) (a 8) (a 9) (a 10) (a 12) (a 14) (a 16) (a 18) (a 20) (a 25) (a 29) (a 31) (a 33) (a 35) (a 21) (a 23) (a 24) (a 22) (a 26) (a 27) (a 28) (a 30) (a 32) (a 34) (a 36) (S.1 0) (S.1 1) (S.1 2) (S.1 3) (S.1 4) (S.1 5) (S.2.1 0) (S.2.1 1) (S.1 6) (S.1 7) (S.1 8) (S.1 9) (S.1 10) (S.1 11) (S.1 12) (S.2.2.1 0) (S.2.2.1 1) (S.2.2.1 2) (S.1 13) (S.2.2.2 0) (S.2.2.1 3) (S.2.2.1 4) (S.1 14) (S.2.2.1 5) (S.1 15) (S.2.2.1 6) (S.1 16) (S.2.2.1 7) (S.1 17) (S.2.2.1 8) (S.1 18) (S.1 19) (S.1 20) (S.1 21) (S.1 22) (S.1 23) (S.1 24) (S.2.2.1 9) (S.2.2.1 10) (S.2.2.1 11) (S.1 25) (S.2.2.2 1) (S.2.2.1 12) (S.2.2.1 13) (S.1 26) (S.2.2.1 14) (S.1 27) (S.2.2.1 15) (S.1 28) (S.2.2.1 16) (S.1 29) (S.2.2.1 17) v1 v2 u hu) [0, 1, 2, 3, 4, 5, 6, 7, 8, 9, 10, 11, 12, 13, 14, 15, 16, 17, 18, 19, 20, 21, 22, 23, 24, 25, 26, 27, 28, 29, 30, 31, 32, 33, 34, 35, 36] rfl (by decide +kernel) rfl rfl
def xx_warnedIn (F : Nat) (S : vS) (v1 : Int32) (v2 : Int32) : Option (Int32 × vS) := (X11_warnedIn F (S.1 5) (S.1 6) (S.1 7) (S.1 8) (S.1 9) (S.1 10) (S.1 11) (S.1 12) (S.2.2.1 0) (S.2.2.1 1) (S.2.2.1 2) (S.1 13) (S.2.2.2 0) (S.2.2.1 3) (S.2.2.1 4) (S.1 14) (S.2.2.1 5) (S.1 15) (S.2.2.1 6) (S.1 16) (S.2.2.1 7) (S.1 17) (S.2.2.1 8) (S.1 18) (S.1 19) (S.1 20) (S.1 21) (S.1 22) (S.1 23) (S.1 24) (S.2.2.1 9) (S.2.2.1 10) (S.2.2.1 11) (S.1 25) (S.2.2.2 1) (S.2.2.1 12) (S.2.2.1 13) (S.1 26) (S.2.2.1 14) (S.1 27) (S.2.2.1 15) (S.1 28) (S.2.2.1 16) (S.1 29) (S.2.2.1 17) v1 v2).map fun u => ((u.1 0), (sA (sI (sA (sI (sA (sI (sA (sI (sA (sA (sB (sI (sA (sA (sA (sI (sI (sI (sI (sI (sI (sI (sI S 5 (u.1 1)) 18 (u.1 2)) 19 (u.1 3)) 20 (u.1 4)) 21 (u.1 5)) 22 (u.1 6)) 23 (u.1 7)) 24 (u.1 8)) 9 (u.2.2.1 0)) 10 (u.2.2.1 1)) 11 (u.2.2.1 2)) 25 (u.1 9)) 1 (u.2.2.2 0)) 12 (u.2.2.1 3)) 13 (u.2.2.1 4)) 26 (u.1 10)) 14 (u.2.2.1 5)) 27 (u.1 11)) 15 (u.2.2.1 6)) 28 (u.1 12)) 16 (u.2.2.1 7)) 29 (u.1 13)) 17 (u.2.2.1 8)))
set_option maxHeartbeats 8000000 in
set_option maxRecDepth 100000 in
theorem cxx_warnedIn (l : Launch) (E : vE) (F : Nat) (a : Nat → Nat) (S : vS) (v1 : Int32) (v2 : Int32) (r : Int32) (S2 : vS) (h : xx_warnedIn F S v1 v2 = some (r, S2)) : CtI l yX11_warnedIn cX11_warnedIn 3 (some .int) 6 E [.ref (a 0), .int v1, .int v2] (wf_X11 E a S) (wf_X11 E a S2) r := by
  unfold xx_warnedIn at h
  obtain ⟨u, hu, h2⟩ := mp_some h
  cases h2
  exact CtI.frame (ct_X11_warnedIn l E F (a 0) (a 1) (a 19) (a 37) (a 92) (a 94) (a 113) (a 117) (a 121) (a 124) (a 126) (a 130) (a 2) (a 7) (a 11) (a 13) (a 15) (a 17) (a 3) (a 5) (a 6) (a 4) (a 8) (a 9) (a 10) (a 12) (a 14) (a 16) (a 18) (a 20) (a 25) (a 29) (a 31) (a 33) (a 35) (a 21) (a 23) (a 24) (a 22) (a 26) (a 27) (a 28) (a 30) (a 32) (a 34) (a 36) (S.1 0) (S.1 1) (S.1 2) (S.1 3) (S.1 4) (S.1 5) (S.2.1 0) (S.2.1 1) (S.1 6) (S.1 7) (S.1 8) (S.1 9) (S.1 10) (S.1 11) (S.1 12) (S.2.2.1 0) (S.2.2.1 1) (S.2.2.1 2) (S.1 13) (S.2.2.2 0) (S.2.2.1 3) (S.2.2.1 4) (S.1 14) (S.2.2.1 5) (S.1 15) (S.2.2.1 6) (S.1 16) (S.2.2.1 7) (S.1 17) (S.2.2.1 8) (S.1 18) (S.1 19) (S.1 20) (S.1 21) (S.1 22) (S.1 23) (S.1 24) (S.2.2.1 9) (S.2.2.1 10) (S.2.2.1 11) (S.1 25) (S.2.2.2 1) (S.2.2.1 12) (S.2.2.1 13) (S.1 26) (S.2.2.1 14) (S.1 27) (S.2.2.1 15) (S.1 28) (S.2.2.1 16) (S.1 29) (S.2.2.1 17) v1 v2 u hu) [0, 1, 2, 3, 4, 5, 6, 7, 8, 9, 10, 11, 12, 13, 14, 15, 16, 17, 18, 19, 20, 21, 22, 23, 24, 25, 26, 27, 28, 29, 30, 31, 32, 33, 34, 35, 36] rfl (by decide +kernel) rfl rfl
def xx_attends (F : Nat) (S : vS) (v1 : Int32) (v2 : Int32) : Option (Int32 × vS) := (X11_attends F (S.1 5) (S.1 9) (S.2.2.1 2) (S.1 14) (S.2.2.1 5) (S.1 15) (S.2.2.1 6) (S.1 89) (S.1 90) (S.2.2.1 59) v1 v2).map fun u => (u.1, (sA (sI (sI (sI S 5 u.2.1) 89 u.2.2.1) 90 u.2.2.2.1) 59 u.2.2.2.2))
set_option maxHeartbeats 8000000 in
set_option maxRecDepth 100000 in
theorem cxx_attends (l : Launch) (E : vE) (F : Nat) (a : Nat → Nat) (S : vS) (v1 : Int32) (v2 : Int32) (r : Int32) (S2 : vS) (h : xx_attends F S v1 v2 = some (r, S2)) : CtI l yX11_attends cX11_attends 3 (some .int) 4 E [.ref (a 0), .int v1, .int v2] (wf_X11 E a S) (wf_X11 E a S2) r := by
  unfold xx_attends at h
  obtain ⟨u, hu, h2⟩ := mp_some h
  cases h2
  exact CtI.frame (ct_X11_attends l E F (a 0) (a 1) (a 19) (a 37) (a 92) (a 94) (a 113) (a 117) (a 121) (a 124) (a 126) (a 130) (a 2) (a 7) (a 11) (a 13) (a 15) (a 17) (a 3) (a 5) (a 6) (a 12) (a 14) (a 122) (a 123) (S.1 0) (S.1 1) (S.1 2) (S.1 3) (S.1 4) (S.1 5) (S.2.1 0) (S.2.1 1) (S.1 6) (S.1 7) (S.1 8) (S.1 9) (S.1 10) (S.1 11) (S.2.2.1 2) (S.1 14) (S.2.2.1 5) (S.1 15) (S.2.2.1 6) (S.1 89) (S.1 90) (S.2.2.1 59) v1 v2 u hu) [0, 1, 2, 6, 11, 12, 13, 14, 121, 122] rfl (by decide +kernel) rfl rfl
