def xx_best (F : Nat) (S : vS) (v1 : Int32) : Option (Int32 × vS) := (X11_best F (S.1 5) (S.1 6) (S.1 9) (S.2.2.1 2) (S.1 14) (S.2.2.1 5) (S.1 15) (S.2.2.1 6) (S.1 89) (S.1 90) (S.2.2.1 59) v1).map fun u => (u.1, (sA (sI (sI (sI S 5 u.2.1) 89 u.2.2.1) 90 u.2.2.2.1) 59 u.2.2.2.2))
set_option maxHeartbeats 8000000 in
set_option maxRecDepth 100000 in
theorem cxx_best (l : Launch) (E : vE) (F : Nat) (a : Nat → Nat) (S : vS) (v1 : Int32) (r : Int32) (S2 : vS) (h : xx_best F S v1 = some (r, S2)) : CtI l yX11_best cX11_best 2 (some .int) 5 E [.ref (a 0), .int v1] (wf_X11 E a S) (wf_X11 E a S2) r := by
  unfold xx_best at h
  obtain ⟨u, hu, h2⟩ := mp_some h
  cases h2
  exact CtI.frame (ct_X11_best l E F (a 0) (a 1) (a 19) (a 37) (a 92) (a 94) (a 113) (a 117) (a 121) (a 124) (a 126) (a 130) (a 2) (a 7) (a 11) (a 13) (a 15) (a 17) (a 3) (a 5) (a 6) (a 12) (a 14) (a 122) (a 123) (S.1 0) (S.1 1) (S.1 2) (S.1 3) (S.1 4) (S.1 5) (S.2.1 0) (S.2.1 1) (S.1 6) (S.1 7) (S.1 8) (S.1 9) (S.1 10) (S.1 11) (S.2.2.1 2) (S.1 14) (S.2.2.1 5) (S.1 15) (S.2.2.1 6) (S.1 89) (S.1 90) (S.2.2.1 59) v1 u hu) [0, 1, 2, 6, 11, 12, 13, 14, 121, 122] rfl (by decide +kernel) rfl rfl
def xx_bestWages (F : Nat) (S : vS) (v1 : Int32) : Option (Int32 × vS) := (X11_bestWages F (S.1 5) (S.1 6) (S.1 9) (S.2.2.1 2) (S.1 14) (S.2.2.1 5) (S.1 15) (S.2.2.1 6) (S.1 89) (S.1 90) (S.2.2.1 59) v1).map fun u => (u.1, (sA (sI (sI (sI S 5 u.2.1) 89 u.2.2.1) 90 u.2.2.2.1) 59 u.2.2.2.2))
set_option maxHeartbeats 8000000 in
set_option maxRecDepth 100000 in
theorem cxx_bestWages (l : Launch) (E : vE) (F : Nat) (a : Nat → Nat) (S : vS) (v1 : Int32) (r : Int32) (S2 : vS) (h : xx_bestWages F S v1 = some (r, S2)) : CtI l yX11_bestWages cX11_bestWages 2 (some .int) 5 E [.ref (a 0), .int v1] (wf_X11 E a S) (wf_X11 E a S2) r := by
  unfold xx_bestWages at h
  obtain ⟨u, hu, h2⟩ := mp_some h
  cases h2
  exact CtI.frame (ct_X11_bestWages l E F (a 0) (a 1) (a 19) (a 37) (a 92) (a 94) (a 113) (a 117) (a 121) (a 124) (a 126) (a 130) (a 2) (a 7) (a 11) (a 13) (a 15) (a 17) (a 3) (a 5) (a 6) (a 12) (a 14) (a 122) (a 123) (S.1 0) (S.1 1) (S.1 2) (S.1 3) (S.1 4) (S.1 5) (S.2.1 0) (S.2.1 1) (S.1 6) (S.1 7) (S.1 8) (S.1 9) (S.1 10) (S.1 11) (S.2.2.1 2) (S.1 14) (S.2.2.1 5) (S.1 15) (S.2.2.1 6) (S.1 89) (S.1 90) (S.2.2.1 59) v1 u hu) [0, 1, 2, 6, 11, 12, 13, 14, 121, 122] rfl (by decide +kernel) rfl rfl
def xx_fewest (F : Nat) (S : vS) : Option (Int32 × vS) := (X11_fewest F (S.1 5) (S.1 9) (S.2.2.1 2) (S.1 14) (S.2.2.1 5) (S.1 15) (S.2.2.1 6) (S.1 89) (S.1 90) (S.2.2.1 59) (S.2.2.1 60)).map fun u => (u.1, (sA (sA (sI (sI (sI S 5 u.2.1) 89 u.2.2.1) 90 u.2.2.2.1) 59 u.2.2.2.2.1) 60 u.2.2.2.2.2))
set_option maxHeartbeats 8000000 in
set_option maxRecDepth 100000 in
theorem cxx_fewest (l : Launch) (E : vE) (F : Nat) (a : Nat → Nat) (S : vS) (r : Int32) (S2 : vS) (h : xx_fewest F S = some (r, S2)) : CtI l yX11_fewest cX11_fewest 2 (some .int) 6 E [.ref (a 0)] (wf_X11 E a S) (wf_X11 E a S2) r := by
  unfold xx_fewest at h
  obtain ⟨u, hu, h2⟩ := mp_some h
  cases h2
  exact CtI.frame (ct_X11_fewest l E F (a 0) (a 1) (a 19) (a 37) (a 92) (a 94) (a 113) (a 117) (a 121) (a 124) (a 126) (a 130) (a 2) (a 7) (a 11) (a 13) (a 15) (a 17) (a 3) (a 5) (a 6) (a 12) (a 14) (a 122) (a 123) (S.1 0) (S.1 1) (S.1 2) (S.1 3) (S.1 4) (S.1 5) (S.2.1 0) (S.2.1 1) (S.1 6) (S.1 7) (S.1 8) (S.1 9) (S.1 10) (S.1 11) (S.2.2.1 2) (S.1 14) (S.2.2.1 5) (S.1 15) (S.2.2.1 6) (S.1 89) (S.1 90) (S.2.2.1 59) (S.2.2.1 60) u hu) [0, 1, 2, 6, 11, 12, 13, 14, 121, 122, 123] rfl (by decide +kernel) rfl rfl
def xx_fewestSet (F : Nat) (S : vS) : Option (Int32 × vS) := (X11_fewestSet F (S.1 5) (S.1 9) (S.2.2.1 2) (S.1 14) (S.2.2.1 5) (S.1 15) (S.2.2.1 6) (S.1 89) (S.1 90) (S.2.2.1 59) (S.2.2.1 60)).map fun u => (u.1, (sA (sA (sI (sI (sI S 5 u.2.1) 89 u.2.2.1) 90 u.2.2.2.1) 59 u.2.2.2.2.1) 60 u.2.2.2.2.2))
set_option maxHeartbeats 8000000 in
set_option maxRecDepth 100000 in
theorem cxx_fewestSet (l : Launch) (E : vE) (F : Nat) (a : Nat → Nat) (S : vS) (r : Int32) (S2 : vS) (h : xx_fewestSet F S = some (r, S2)) : CtI l yX11_fewestSet cX11_fewestSet 2 (some .int) 6 E [.ref (a 0)] (wf_X11 E a S) (wf_X11 E a S2) r := by
  unfold xx_fewestSet at h
  obtain ⟨u, hu, h2⟩ := mp_some h
  cases h2
  exact CtI.frame (ct_X11_fewestSet l E F (a 0) (a 1) (a 19) (a 37) (a 92) (a 94) (a 113) (a 117) (a 121) (a 124) (a 126) (a 130) (a 2) (a 7) (a 11) (a 13) (a 15) (a 17) (a 3) (a 5) (a 6) (a 12) (a 14) (a 122) (a 123) (S.1 0) (S.1 1) (S.1 2) (S.1 3) (S.1 4) (S.1 5) (S.2.1 0) (S.2.1 1) (S.1 6) (S.1 7) (S.1 8) (S.1 9) (S.1 10) (S.1 11) (S.2.2.1 2) (S.1 14) (S.2.2.1 5) (S.1 15) (S.2.2.1 6) (S.1 89) (S.1 90) (S.2.2.1 59) (S.2.2.1 60) u hu) [0, 1, 2, 6, 11, 12, 13, 14, 121, 122, 123] rfl (by decide +kernel) rfl rfl
def xx_explained (F : Nat) (S : vS) (v1 : Int32) : Option (Int32 × vS) := (X11_explained F (S.1 5) (S.1 11) (S.1 15) (S.2.2.1 6) (S.2.2.2 6) (S.2.2.1 58) v1).map fun u => (u.1, (sI S 5 u.2))
set_option maxHeartbeats 8000000 in
set_option maxRecDepth 100000 in
theorem cxx_explained (l : Launch) (E : vE) (F : Nat) (a : Nat → Nat) (S : vS) (v1 : Int32) (r : Int32) (S2 : vS) (h : xx_explained F S v1 = some (r, S2)) : CtI l yX11_explained cX11_explained 6 (some .int) 5 E [.ref (a 0), .int v1] (wf_X11 E a S) (wf_X11 E a S2) r := by
  unfold xx_explained at h
  obtain ⟨u, hu, h2⟩ := mp_some h
  cases h2
  exact CtI.frame (ct_X11_explained l E F (a 0) (a 1) (a 19) (a 37) (a 92) (a 94) (a 113) (a 117) (a 121) (a 124) (a 126) (a 130) (a 2) (a 7) (a 11) (a 13) (a 15) (a 17) (a 3) (a 5) (a 6) (a 14) (a 118) (a 119) (a 120) (S.1 0) (S.1 1) (S.1 2) (S.1 3) (S.1 4) (S.1 5) (S.2.1 0) (S.2.1 1) (S.1 6) (S.1 7) (S.1 8) (S.1 9) (S.1 10) (S.1 11) (S.1 15) (S.2.2.1 6) (S.2.2.2 6) (S.2.2.1 58) v1 u hu) [0, 1, 2, 13, 14, 117, 118, 120] rfl (by decide +kernel) rfl rfl
def xx_sure (F : Nat) (S : vS) (v1 : Int32) : Option (Int32 × vS) := (X11_sure F (S.1 5) (S.1 11) (S.1 15) (S.2.2.1 6) (S.2.2.2 6) (S.2.2.1 58) v1).map fun u => (u.1, (sI S 5 u.2))
set_option maxHeartbeats 8000000 in
set_option maxRecDepth 100000 in
theorem cxx_sure (l : Launch) (E : vE) (F : Nat) (a : Nat → Nat) (S : vS) (v1 : Int32) (r : Int32) (S2 : vS) (h : xx_sure F S v1 = some (r, S2)) : CtI l yX11_sure cX11_sure 6 (some .int) 5 E [.ref (a 0), .int v1] (wf_X11 E a S) (wf_X11 E a S2) r := by
  unfold xx_sure at h
  obtain ⟨u, hu, h2⟩ := mp_some h
  cases h2
  exact CtI.frame (ct_X11_sure l E F (a 0) (a 1) (a 19) (a 37) (a 92) (a 94) (a 113) (a 117) (a 121) (a 124) (a 126) (a 130) (a 2) (a 7) (a 11) (a 13) (a 15) (a 17) (a 3) (a 5) (a 6) (a 14) (a 118) (a 119) (a 120) (S.1 0) (S.1 1) (S.1 2) (S.1 3) (S.1 4) (S.1 5) (S.2.1 0) (S.2.1 1) (S.1 6) (S.1 7) (S.1 8) (S.1 9) (S.1 10) (S.1 11) (S.1 15) (S.2.2.1 6) (S.2.2.2 6) (S.2.2.1 58) v1 u hu) [0, 1, 2, 13, 14, 117, 118, 120] rfl (by decide +kernel) rfl rfl
def xx_laws (F : Nat) (S : vS) (v1 : Int32) (v2 : Int32) : Option (Int32 × vS) := (X11_laws F (S.1 5) (S.2.2.2 6) (S.2.2.1 58) v1 v2).map fun u => (u.1, (sI S 5 u.2))
set_option maxHeartbeats 8000000 in
set_option maxRecDepth 100000 in
theorem cxx_laws (l : Launch) (E : vE) (F : Nat) (a : Nat → Nat) (S : vS) (v1 : Int32) (v2 : Int32) (r : Int32) (S2 : vS) (h : xx_laws F S v1 v2 = some (r, S2)) : CtI l yX11_laws cX11_laws 7 (some .int) 5 E [.ref (a 0), .int v1, .int v2] (wf_X11 E a S) (wf_X11 E a S2) r := by
  unfold xx_laws at h
  obtain ⟨u, hu, h2⟩ := mp_some h
  cases h2
  exact CtI.frame (ct_X11_laws l E F (a 0) (a 1) (a 19) (a 37) (a 92) (a 94) (a 113) (a 117) (a 121) (a 124) (a 126) (a 130) (a 118) (a 119) (a 120) (S.1 0) (S.1 1) (S.1 2) (S.1 3) (S.1 4) (S.1 5) (S.2.1 0) (S.2.1 1) (S.2.2.2 6) (S.2.2.1 58) v1 v2 u hu) [0, 117, 118, 120] rfl (by decide +kernel) rfl rfl
def xx_lawFirst (F : Nat) (S : vS) (v1 : Int32) (v2 : Int32) : Option (Int32 × vS) := (X11_lawFirst F (S.1 5) (S.2.2.2 6) (S.2.2.1 58) v1 v2).map fun u => (u.1, (sI S 5 u.2))
set_option maxHeartbeats 8000000 in
set_option maxRecDepth 100000 in
theorem cxx_lawFirst (l : Launch) (E : vE) (F : Nat) (a : Nat → Nat) (S : vS) (v1 : Int32) (v2 : Int32) (r : Int32) (S2 : vS) (h : xx_lawFirst F S v1 v2 = some (r, S2)) : CtI l yX11_lawFirst cX11_lawFirst 6 (some .int) 5 E [.ref (a 0), .int v1, .int v2] (wf_X11 E a S) (wf_X11 E a S2) r := by
  unfold xx_lawFirst at h
  obtain ⟨u, hu, h2⟩ := mp_some h
  cases h2
  exact CtI.frame (ct_X11_lawFirst l E F (a 0) (a 1) (a 19) (a 37) (a 92) (a 94) (a 113) (a 117) (a 121) (a 124) (a 126) (a 130) (a 118) (a 119) (a 120) (S.1 0) (S.1 1) (S.1 2) (S.1 3) (S.1 4) (S.1 5) (S.2.1 0) (S.2.1 1) (S.2.2.2 6) (S.2.2.1 58) v1 v2 u hu) [0, 117, 118, 120] rfl (by decide +kernel) rfl rfl
def xx_guard (F : Nat) (S : vS) : Option (Int32 × vS) := (X11_guard F (S.1 5) (S.1 11) (S.1 15) (S.2.2.1 6)).map fun u => (u.1, (sI S 5 u.2))
set_option maxHeartbeats 8000000 in
set_option maxRecDepth 100000 in
theorem cxx_guard (l : Launch) (E : vE) (F : Nat) (a : Nat → Nat) (S : vS) (r : Int32) (S2 : vS) (h : xx_guard F S = some (r, S2)) : CtI l yX11_guard cX11_guard 2 (some .int) 4 E [.ref (a 0)] (wf_X11 E a S) (wf_X11 E a S2) r := by
  unfold xx_guard at h
  obtain ⟨u, hu, h2⟩ := mp_some h
  cases h2
  exact CtI.frame (ct_X11_guard l E F (a 0) (a 1) (a 19) (a 37) (a 92) (a 94) (a 113) (a 117) (a 121) (a 124) (a 126) (a 130) (a 2) (a 7) (a 11) (a 13) (a 15) (a 17) (a 3) (a 5) (a 6) (a 14) (a 125) (S.1 0) (S.1 1) (S.1 2) (S.1 3) (S.1 4) (S.1 5) (S.2.1 0) (S.2.1 1) (S.1 6) (S.1 7) (S.1 8) (S.1 9) (S.1 10) (S.1 11) (S.1 15) (S.2.2.1 6) u hu) [0, 1, 2, 13, 14, 124] rfl (by decide +kernel) rfl rfl
def xx_guardLeft (F : Nat) (S : vS) : Option (Int32 × vS) := (X11_guardLeft F (S.1 5) (S.1 11) (S.1 15) (S.2.2.1 6)).map fun u => (u.1, (sI S 5 u.2))
set_option maxHeartbeats 8000000 in
set_option maxRecDepth 100000 in
theorem cxx_guardLeft (l : Launch) (E : vE) (F : Nat) (a : Nat → Nat) (S : vS) (r : Int32) (S2 : vS) (h : xx_guardLeft F S = some (r, S2)) : CtI l yX11_guardLeft cX11_guardLeft 2 (some .int) 4 E [.ref (a 0)] (wf_X11 E a S) (wf_X11 E a S2) r := by
  unfold xx_guardLeft at h
  obtain ⟨u, hu, h2⟩ := mp_some h
  cases h2
  exact CtI.frame (ct_X11_guardLeft l E F (a 0) (a 1) (a 19) (a 37) (a 92) (a 94) (a 113) (a 117) (a 121) (a 124) (a 126) (a 130) (a 2) (a 7) (a 11) (a 13) (a 15) (a 17) (a 3) (a 5) (a 6) (a 14) (a 125) (S.1 0) (S.1 1) (S.1 2) (S.1 3) (S.1 4) (S.1 5) (S.2.1 0) (S.2.1 1) (S.1 6) (S.1 7) (S.1 8) (S.1 9) (S.1 10) (S.1 11) (S.1 15) (S.2.2.1 6) u hu) [0, 1, 2, 13, 14, 124] rfl (by decide +kernel) rfl rfl
def xx_game (F : Nat) (S : vS) (v1 : Int32) (v2 : Int32) : Option (Int32 × vS) := (X11_game F (S.1 5) (S.1 11) (S.2.2.1 1) (S.1 15) (S.2.2.1 6) (S.2.2.1 61) v1 v2).map fun u => (u.1, (sA (sI S 5 u.2.1) 61 u.2.2))
set_option maxHeartbeats 8000000 in
set_option maxRecDepth 100000 in
theorem cxx_game (l : Launch) (E : vE) (F : Nat) (a : Nat → Nat) (S : vS) (v1 : Int32) (v2 : Int32) (r : Int32) (S2 : vS) (h : xx_game F S v1 v2 = some (r, S2)) : CtI l yX11_game cX11_game 3 (some .int) 15 E [.ref (a 0), .int v1, .int v2] (wf_X11 E a S) (wf_X11 E a S2) r := by
  unfold xx_game at h
  obtain ⟨u, hu, h2⟩ := mp_some h
  cases h2
  exact CtI.frame (ct_X11_game l E F (a 0) (a 1) (a 19) (a 37) (a 92) (a 94) (a 113) (a 117) (a 121) (a 124) (a 126) (a 130) (a 2) (a 7) (a 11) (a 13) (a 15) (a 17) (a 3) (a 5) (a 6) (a 14) (a 125) (S.1 0) (S.1 1) (S.1 2) (S.1 3) (S.1 4) (S.1 5) (S.2.1 0) (S.2.1 1) (S.1 6) (S.1 7) (S.1 8) (S.1 9) (S.1 10) (S.1 11) (S.2.2.1 1) (S.1 15) (S.2.2.1 6) (S.2.2.1 61) v1 v2 u hu) [0, 1, 2, 5, 13, 14, 124, 125] rfl (by decide +kernel) rfl rfl
def xx_moveOf (F : Nat) (S : vS) (v1 : Int32) (v2 : Int32) : Option (Int32 × vS) := (X11_moveOf F (S.1 5) (S.1 11) (S.2.2.1 1) (S.1 15) (S.2.2.1 6) (S.2.2.1 61) v1 v2).map fun u => (u.1, (sA (sI S 5 u.2.1) 61 u.2.2))
set_option maxHeartbeats 8000000 in
set_option maxRecDepth 100000 in
theorem cxx_moveOf (l : Launch) (E : vE) (F : Nat) (a : Nat → Nat) (S : vS) (v1 : Int32) (v2 : Int32) (r : Int32) (S2 : vS) (h : xx_moveOf F S v1 v2 = some (r, S2)) : CtI l yX11_moveOf cX11_moveOf 3 (some .int) 16 E [.ref (a 0), .int v1, .int v2] (wf_X11 E a S) (wf_X11 E a S2) r := by
  unfold xx_moveOf at h
  obtain ⟨u, hu, h2⟩ := mp_some h
  cases h2
  exact CtI.frame (ct_X11_moveOf l E F (a 0) (a 1) (a 19) (a 37) (a 92) (a 94) (a 113) (a 117) (a 121) (a 124) (a 126) (a 130) (a 2) (a 7) (a 11) (a 13) (a 15) (a 17) (a 3) (a 5) (a 6) (a 14) (a 125) (S.1 0) (S.1 1) (S.1 2) (S.1 3) (S.1 4) (S.1 5) (S.2.1 0) (S.2.1 1) (S.1 6) (S.1 7) (S.1 8) (S.1 9) (S.1 10) (S.1 11) (S.2.2.1 1) (S.1 15) (S.2.2.1 6) (S.2.2.1 61) v1 v2 u hu) [0, 1, 2, 5, 13, 14, 124, 125] rfl (by decide +kernel) rfl rfl
def xx_falls (F : Nat) (S : vS) (v1 : Int32) : Option (Int32 × vS) := (X11_falls F (S.1 5) (S.2.1 0) (S.2.1 1) (S.1 8) (S.1 14) (S.2.2.1 5) v1).map fun u => (u.1, (sJ (sJ (sI S 5 u.2.1) 0 u.2.2.1) 1 u.2.2.2))
set_option maxHeartbeats 8000000 in
set_option maxRecDepth 100000 in
theorem cxx_falls (l : Launch) (E : vE) (F : Nat) (a : Nat → Nat) (S : vS) (v1 : Int32) (r : Int32) (S2 : vS) (h : xx_falls F S v1 = some (r, S2)) : CtI l yX11_falls cX11_falls 6 (some .boolean) 2 E [.ref (a 0), .int v1] (wf_X11 E a S) (wf_X11 E a S2) r := by
  unfold xx_falls at h
  obtain ⟨u, hu, h2⟩ := mp_some h
  cases h2
  exact CtI.frame (ct_X11_falls l E F (a 0) (a 1) (a 19) (a 37) (a 92) (a 94) (a 113) (a 117) (a 121) (a 124) (a 126) (a 130) (a 2) (a 7) (a 11) (a 13) (a 15) (a 17) (a 12) (S.1 0) (S.1 1) (S.1 2) (S.1 3) (S.1 4) (S.1 5) (S.2.1 0) (S.2.1 1) (S.1 6) (S.1 7) (S.1 8) (S.1 9) (S.1 10) (S.1 14) (S.2.2.1 5) v1 u hu) [0, 1, 11, 12] rfl (by decide +kernel) rfl rfl
def xx_copyStanding (F : Nat) (S : vS) (v1 : Int32) : Option (Int32 × vS) := (X11_copyStanding F (S.1 5) (S.1 11) (S.1 14) (S.2.2.1 5) (S.2.2.2 6) (S.2.2.1 57) (S.2.2.1 58) v1).map fun u => (u.1, (sB (sI S 5 u.2.1) 6 u.2.2))
set_option maxHeartbeats 8000000 in
set_option maxRecDepth 100000 in
theorem cxx_copyStanding (l : Launch) (E : vE) (F : Nat) (a : Nat → Nat) (S : vS) (v1 : Int32) (r : Int32) (S2 : vS) (h : xx_copyStanding F S v1 = some (r, S2)) : CtI l yX11_copyStanding cX11_copyStanding 5 (some .int) 3 E [.ref (a 0), .int v1] (wf_X11 E a S) (wf_X11 E a S2) r := by
  unfold xx_copyStanding at h
  obtain ⟨u, hu, h2⟩ := mp_some h
  cases h2
  exact CtI.frame (ct_X11_copyStanding l E F (a 0) (a 1) (a 19) (a 37) (a 92) (a 94) (a 113) (a 117) (a 121) (a 124) (a 126) (a 130) (a 2) (a 7) (a 11) (a 13) (a 15) (a 17) (a 3) (a 5) (a 6) (a 12) (a 118) (a 119) (a 120) (S.1 0) (S.1 1) (S.1 2) (S.1 3) (S.1 4) (S.1 5) (S.2.1 0) (S.2.1 1) (S.1 6) (S.1 7) (S.1 8) (S.1 9) (S.1 10) (S.1 11) (S.1 14) (S.2.2.1 5) (S.2.2.2 6) (S.2.2.1 57) (S.2.2.1 58) v1 u hu) [0, 1, 2, 11, 12, 117, 118, 119, 120] rfl (by decide +kernel) rfl rfl
def xx_live (F : Nat) (S : vS) (v1 : Int32) : Option (Int32 × vS) := (X11_live F (S.1 1) (S.1 5) (S.1 6) (S.1 7) (S.1 9) (S.1 10) (S.1 11) (S.2.2.1 1) (S.2.2.1 2) (S.1 14) (S.2.2.1 5) (S.1 15) (S.2.2.1 6) (S.1 16) (S.2.2.1 7) (S.1 17) (S.2.2.1 8) (S.1 91) (S.1 92) (S.1 93) (S.1 94) (S.1 95) (S.1 96) (S.1 97) (S.1 98) (S.2.2.1 62) (S.2.2.1 63) (S.2.2.1 64) (S.2.2.1 65) v1).map fun u => ((u.1 0), (sA (sA (sA (sA (sI (sI (sI (sI (sI (sI (sI (sI (sA (sA (sA (sI (sI (sI S 1 (u.1 1)) 5 (u.1 2)) 9 (u.1 3)) 5 (u.2.2.1 0)) 6 (u.2.2.1 1)) 7 (u.2.2.1 2)) 91 (u.1 4)) 92 (u.1 5)) 93 (u.1 6)) 94 (u.1 7)) 95 (u.1 8)) 96 (u.1 9)) 97 (u.1 10)) 98 (u.1 11)) 62 (u.2.2.1 3)) 63 (u.2.2.1 4)) 64 (u.2.2.1 5)) 65 (u.2.2.1 6)))
set_option maxHeartbeats 8000000 in
set_option maxRecDepth 100000 in
theorem cxx_live (l : Launch) (E : vE) (F : Nat) (a : Nat → Nat) (S : vS) (v1 : Int32) (r : Int32) (S2 : vS) (h : xx_live F S v1 = some (r, S2)) : CtI l yX11_live cX11_live 4 (some .int) 7 E [.ref (a 0), .int v1] (wf_X11 E a S) (wf_X11 E a S2) r := by
  unfold xx_live at h
  obtain ⟨u, hu, h2⟩ := mp_some h
  cases h2
  exact CtI.frame (ct_X11_live l E F (a 0) (a 1) (a 19) (a 37) (a 92) (a 94) (a 113) (a 117) (a 121) (a 124) (a 126) (a 130) (a 2) (a 7) (a 11) (a 13) (a 15) (a 17) (a 3) (a 5) (a 6) (a 12) (a 14) (a 16) (a 18) (a 127) (a 128) (a 129) (S.1 0) (S.1 1) (S.1 2) (S.1 3) (S.1 4) (S.1 5) (S.2.1 0) (S.2.1 1) (S.1 6) (S.1 7) (S.1 8) (S.1 9) (S.1 10) (S.1 11) (S.2.2.1 1) (S.2.2.1 2) (S.1 14) (S.2.2.1 5) (S.1 15) (S.2.2.1 6) (S.1 16) (S.2.2.1 7) (S.1 17) (S.2.2.1 8) (S.1 91) (S.1 92) (S.1 93) (S.1 94) (S.1 95) (S.1 96) (S.1 97) (S.1 98) (S.2.2.1 62) (S.2.2.1 63) (S.2.2.1 64) (S.2.2.1 65) v1 u hu) [0, 1, 2, 5, 6, 11, 12, 13, 14, 15, 16, 17, 18, 126, 127, 128, 129, 130] rfl (by decide +kernel) rfl rfl
def xx_lived (F : Nat) (S : vS) (v1 : Int32) : Option (Int32 × vS) := (X11_lived (S.1 1) (S.1 5) (S.2.2.1 65) v1).map fun u => (u.1, (sI S 5 u.2))
set_option maxHeartbeats 8000000 in
set_option maxRecDepth 100000 in
theorem cxx_lived (l : Launch) (E : vE) (F : Nat) (a : Nat → Nat) (S : vS) (v1 : Int32) (r : Int32) (S2 : vS) (h : xx_lived F S v1 = some (r, S2)) : CtI l yX11_lived cX11_lived 2 (some .int) 1 E [.ref (a 0), .int v1] (wf_X11 E a S) (wf_X11 E a S2) r := by
  unfold xx_lived at h
  obtain ⟨u, hu, h2⟩ := mp_some h
  cases h2
  exact CtI.frame (ct_X11_lived l E (a 0) (a 1) (a 19) (a 37) (a 92) (a 94) (a 113) (a 117) (a 121) (a 124) (a 126) (a 130) (S.1 0) (S.1 1) (S.1 2) (S.1 3) (S.1 4) (S.1 5) (S.2.1 0) (S.2.1 1) (S.2.2.1 65) v1 u hu) [0, 130] rfl (by decide +kernel) rfl rfl
def xx_mean (F : Nat) (S : vS) (v1 : Int32) (v2 : Int32) : Option (Int32 × vS) := (X11_mean F (S.1 5) (S.2.1 0) (S.2.1 1) (S.1 6) (S.1 7) (S.1 8) (S.1 9) (S.1 10) (S.1 11) (S.1 12) (S.2.2.1 0) (S.2.2.1 1) (S.2.2.1 2) (S.1 13) (S.2.2.2 0) (S.2.2.1 3) (S.2.2.1 4) (S.1 14) (S.2.2.1 5) (S.1 15) (S.2.2.1 6) (S.1 16) (S.2.2.1 7) (S.1 17) (S.2.2.1 8) (S.1 18) (S.1 19) (S.1 20) (S.1 21) (S.1 22) (S.1 23) (S.1 24) (S.2.2.1 9) (S.2.2.1 10) (S.2.2.1 11) (S.1 25) (S.2.2.2 1) (S.2.2.1 12) (S.2.2.1 13) (S.1 26) (S.2.2.1 14) (S.1 27) (S.2.2.1 15) (S.1 28) (S.2.2.1 16) (S.1 29) (S.2.2.1 17) (S.1 91) (S.1 92) (S.1 93) (S.1 94) (S.1 95) (S.1 96) (S.1 97) (S.1 98) (S.2.2.1 62) (S.2.2.1 63) (S.2.2.1 64) v1 v2).map fun u => ((u.1 0), (sA (sA (sA (sI (sI (sI (sI (sI (sI (sI (sI (sA (sI (sA (sI (sA (sI (sA (sI (sA (sA (sB (sI (sA (sA (sA (sI (sI (sI (sI (sI (sI (sI (sJ (sJ (sI S 5 (u.1 1)) 0 (u.2.1 0)) 1 (u.2.1 1)) 18 (u.1 2)) 19 (u.1 3)) 20 (u.1 4)) 21 (u.1 5)) 22 (u.1 6)) 23 (u.1 7)) 24 (u.1 8)) 9 (u.2.2.1 0)) 10 (u.2.2.1 1)) 11 (u.2.2.1 2)) 25 (u.1 9)) 1 (u.2.2.2 0)) 12 (u.2.2.1 3)) 13 (u.2.2.1 4)) 26 (u.1 10)) 14 (u.2.2.1 5)) 27 (u.1 11)) 15 (u.2.2.1 6)) 28 (u.1 12)) 16 (u.2.2.1 7)) 29 (u.1 13)) 17 (u.2.2.1 8)) 91 (u.1 14)) 92 (u.1 15)) 93 (u.1 16)) 94 (u.1 17)) 95 (u.1 18)) 96 (u.1 19)) 97 (u.1 20)) 98 (u.1 21)) 62 (u.2.2.1 9)) 63 (u.2.2.1 10)) 64 (u.2.2.1 11)))
set_option maxHeartbeats 8000000 in
set_option maxRecDepth 100000 in
theorem cxx_mean (l : Launch) (E : vE) (F : Nat) (a : Nat → Nat) (S : vS) (v1 : Int32) (v2 : Int32) (r : Int32) (S2 : vS) (h : xx_mean F S v1 v2 = some (r, S2)) : CtI l yX11_mean cX11_mean 6 (some .boolean) 7 E [.ref (a 0), .int v1, .int v2] (wf_X11 E a S) (wf_X11 E a S2) r := by
  unfold xx_mean at h
  obtain ⟨u, hu, h2⟩ := mp_some h
  cases h2
  exact CtI.frame (ct_X11_mean l E F (a 0) (a 1) (a 19) (a 37) (a 92) (a 94) (a 113) (a 117) (a 121) (a 124) (a 126) (a 130) (a 2) (a 7) (a 11) (a 13) (a 15) (a 17) (a 3) (a 5) (a 6) (a 4) (a 8) (a 9) (a 10) (a 12) (a 14) (a 16) (a 18) (a 20) (a 25) (a 29) (a 31) (a 33) (a 35) (a 21) (a 23) (a 24) (a 22) (a 26) (a 27) (a 28) (a 30) (a 32) (a 34) (a 36) (a 127) (a 128) (a 129) (S.1 0) (S.1 1) (S.1 2) (S.1 3) (S.1 4) (S.1 5) (S.2.1 0) (S.2.1 1) (S.1 6) (S.1 7) (S.1 8) (S.1 9) (S.1 10) (S.1 11) (S.1 12) (S.2.2.1 0) (S.2.2.1 1) (S.2.2.1 2) (S.1 13) (S.2.2.2 0) (S.2.2.1 3) (S.2.2.1 4) (S.1 14) (S.2.2.1 5) (S.1 15) (S.2.2.1 6) (S.1 16) (S.2.2.1 7) (S.1 17) (S.2.2.1 8) (S.1 18) (S.1 19) (S.1 20) (S.1 21) (S.1 22) (S.1 23) (S.1 24) (S.2.2.1 9) (S.2.2.1 10) (S.2.2.1 11) (S.1 25) (S.2.2.2 1) (S.2.2.1 12) (S.2.2.1 13) (S.1 26) (S.2.2.1 14) (S.1 27) (S.2.2.1 15) (S.1 28) (S.2.2.1 16) (S.1 29) (S.2.2.1 17) (S.1 91) (S.1 92) (S.1 93) (S.1 94) (S.1 95) (S.1 96) (S.1 97) (S.1 98) (S.2.2.1 62) (S.2.2.1 63) (S.2.2.1 64) v1 v2 u hu) [0, 1, 2, 3, 4, 5, 6, 7, 8, 9, 10, 11, 12, 13, 14, 15, 16, 17, 18, 19, 20, 21, 22, 23, 24, 25, 26, 27, 28, 29, 30, 31, 32, 33, 34, 35, 36, 126, 127, 128, 129] rfl (by decide +kernel) rfl rfl
def xx_mark (F : Nat) (S : vS) : Option (Int32 × vS) := (X11_mark (S.1 0) (S.1 5) (S.1 6) (S.1 7) (S.1 8) (S.1 9) (S.1 10) (S.1 11) (S.1 12) (S.2.2.1 0) (S.2.2.1 1) (S.2.2.1 2) (S.1 13) (S.2.2.2 0) (S.2.2.1 3) (S.2.2.1 4) (S.1 14) (S.2.2.1 5) (S.1 15) (S.2.2.1 6) (S.1 16) (S.2.2.1 7) (S.1 17) (S.2.2.1 8) (S.1 30) (S.1 31) (S.1 32) (S.1 33) (S.1 34) (S.1 35) (S.1 36) (S.2.2.1 18) (S.2.2.1 19) (S.2.2.1 20) (S.1 37) (S.2.2.2 2) (S.2.2.1 21) (S.2.2.1 22) (S.1 38) (S.2.2.1 23) (S.1 39) (S.2.2.1 24) (S.1 40) (S.2.2.1 25) (S.1 41) (S.2.2.1 26) (S.1 42) (S.1 43) (S.1 44) (S.1 45) (S.1 46) (S.1 47) (S.1 48) (S.2.2.1 27) (S.2.2.1 28) (S.2.2.1 29) (S.1 49) (S.2.2.2 3) (S.2.2.1 30) (S.2.2.1 31) (S.1 50) (S.2.2.1 32) (S.1 51) (S.2.2.1 33) (S.1 52) (S.2.2.1 34) (S.1 53) (S.2.2.1 35) (S.1 54) (S.1 55) (S.1 56) (S.1 57) (S.1 58) (S.1 59) (S.1 60) (S.2.2.1 36) (S.2.2.1 37) (S.2.2.1 38) (S.1 61) (S.2.2.2 4) (S.2.2.1 39) (S.2.2.1 40) (S.1 62) (S.2.2.1 41) (S.1 63) (S.2.2.1 42) (S.1 64) (S.2.2.1 43) (S.1 65) (S.2.2.1 44)).map fun u => ((u.1 0), (sA (sI (sA (sI (sA (sI (sA (sI (sA (sA (sB (sI (sA (sA (sA (sI (sI (sI (sI (sI (sI (sI (sA (sI (sA (sI (sA (sI (sA (sI (sA (sA (sB (sI (sA (sA (sA (sI (sI (sI (sI (sI (sI (sI (sA (sI (sA (sI (sA (sI (sA (sI (sA (sA (sB (sI (sA (sA (sA (sI (sI (sI (sI (sI (sI (sI (sI (sI S 0 (u.1 1)) 5 (u.1 2)) 30 (u.1 3)) 31 (u.1 4)) 32 (u.1 5)) 33 (u.1 6)) 34 (u.1 7)) 35 (u.1 8)) 36 (u.1 9)) 18 (u.2.2.1 0)) 19 (u.2.2.1 1)) 20 (u.2.2.1 2)) 37 (u.1 10)) 2 (u.2.2.2 0)) 21 (u.2.2.1 3)) 22 (u.2.2.1 4)) 38 (u.1 11)) 23 (u.2.2.1 5)) 39 (u.1 12)) 24 (u.2.2.1 6)) 40 (u.1 13)) 25 (u.2.2.1 7)) 41 (u.1 14)) 26 (u.2.2.1 8)) 42 (u.1 15)) 43 (u.1 16)) 44 (u.1 17)) 45 (u.1 18)) 46 (u.1 19)) 47 (u.1 20)) 48 (u.1 21)) 27 (u.2.2.1 9)) 28 (u.2.2.1 10)) 29 (u.2.2.1 11)) 49 (u.1 22)) 3 (u.2.2.2 1)) 30 (u.2.2.1 12)) 31 (u.2.2.1 13)) 50 (u.1 23)) 32 (u.2.2.1 14)) 51 (u.1 24)) 33 (u.2.2.1 15)) 52 (u.1 25)) 34 (u.2.2.1 16)) 53 (u.1 26)) 35 (u.2.2.1 17)) 54 (u.1 27)) 55 (u.1 28)) 56 (u.1 29)) 57 (u.1 30)) 58 (u.1 31)) 59 (u.1 32)) 60 (u.1 33)) 36 (u.2.2.1 18)) 37 (u.2.2.1 19)) 38 (u.2.2.1 20)) 61 (u.1 34)) 4 (u.2.2.2 2)) 39 (u.2.2.1 21)) 40 (u.2.2.1 22)) 62 (u.1 35)) 41 (u.2.2.1 23)) 63 (u.1 36)) 42 (u.2.2.1 24)) 64 (u.1 37)) 43 (u.2.2.1 25)) 65 (u.1 38)) 44 (u.2.2.1 26)))
set_option maxHeartbeats 8000000 in
set_option maxRecDepth 100000 in
theorem cxx_mark (l : Launch) (E : vE) (F : Nat) (a : Nat → Nat) (S : vS) (r : Int32) (S2 : vS) (h : xx_mark F S = some (r, S2)) : CtI l yX11_mark cX11_mark 2 (some .int) 4 E [.ref (a 0)] (wf_X11 E a S) (wf_X11 E a S2) r := by
  unfold xx_mark at h
  obtain ⟨u, hu, h2⟩ := mp_some h
  cases h2
  exact CtI.frame (ct_X11_mark l E (a 0) (a 1) (a 19) (a 37) (a 92) (a 94) (a 113) (a 117) (a 121) (a 124) (a 126) (a 130) (a 2) (a 7) (a 11) (a 13) (a 15) (a 17) (a 3) (a 5) (a 6) (a 4) (a 8) (a 9) (a 10) (a 12) (a 14) (a 16) (a 18) (a 38) (a 56) (a 74) (a 39) (a 44) (a 48) (a 50) (a 52) (a 54) (a 40) (a 42) (a 43) (a 41) (a 45) (a 46) (a 47) (a 49) (a 51) (a 53) (a 55) (a 57) (a 62) (a 66) (a 68) (a 70) (a 72) (a 58) (a 60) (a 61) (a 59) (a 63) (a 64) (a 65) (a 67) (a 69) (a 71) (a 73) (a 75) (a 80) (a 84) (a 86) (a 88) (a 90) (a 76) (a 78) (a 79) (a 77) (a 81) (a 82) (a 83) (a 85) (a 87) (a 89) (a 91) (S.1 0) (S.1 1) (S.1 2) (S.1 3) (S.1 4) (S.1 5) (S.2.1 0) (S.2.1 1) (S.1 6) (S.1 7) (S.1 8) (S.1 9) (S.1 10) (S.1 11) (S.1 12) (S.2.2.1 0) (S.2.2.1 1) (S.2.2.1 2) (S.1 13) (S.2.2.2 0) (S.2.2.1 3) (S.2.2.1 4) (S.1 14) (S.2.2.1 5) (S.1 15) (S.2.2.1 6) (S.1 16) (S.2.2.1 7) (S.1 17) (S.2.2.1 8) (S.1 30) (S.1 31) (S.1 32) (S.1 33) (S.1 34) (S.1 35) (S.1 36) (S.2.2.1 18) (S.2.2.1 19) (S.2.2.1 20) (S.1 37) (S.2.2.2 2) (S.2.2.1 21) (S.2.2.1 22) (S.1 38) (S.2.2.1 23) (S.1 39) (S.2.2.1 24) (S.1 40) (S.2.2.1 25) (S.1 41) (S.2.2.1 26) (S.1 42) (S.1 43) (S.1 44) (S.1 45) (S.1 46) (S.1 47) (S.1 48) (S.2.2.1 27) (S.2.2.1 28) (S.2.2.1 29) (S.1 49) (S.2.2.2 3) (S.2.2.1 30) (S.2.2.1 31) (S.1 50) (S.2.2.1 32) (S.1 51) (S.2.2.1 33) (S.1 52) (S.2.2.1 34) (S.1 53) (S.2.2.1 35) (S.1 54) (S.1 55) (S.1 56) (S.1 57) (S.1 58) (S.1 59) (S.1 60) (S.2.2.1 36) (S.2.2.1 37) (S.2.2.1 38) (S.1 61) (S.2.2.2 4) (S.2.2.1 39) (S.2.2.1 40) (S.1 62) (S.2.2.1 41) (S.1 63) (S.2.2.1 42) (S.1 64) (S.2.2.1 43) (S.1 65) (S.2.2.1 44) u hu) [0, 1, 2, 3, 4, 5, 6, 7, 8, 9, 10, 11, 12, 13, 14, 15, 16, 17, 18, 37, 38, 39, 40, 41, 42, 43, 44, 45, 46, 47, 48, 49, 50, 51, 52, 53, 54, 55, 56, 57, 58, 59, 60, 61, 62, 63, 64, 65, 66, 67, 68, 69, 70, 71, 72, 73, 74, 75, 76, 77, 78, 79, 80, 81, 82, 83, 84, 85, 86, 87, 88, 89, 90, 91] rfl (by decide +kernel) rfl rfl
def xx_undo (F : Nat) (S : vS) : Option (Int32 × vS) := (X11_undo (S.1 0) (S.1 5) (S.1 6) (S.1 7) (S.1 8) (S.1 9) (S.1 10) (S.1 11) (S.1 12) (S.2.2.1 0) (S.2.2.1 1) (S.2.2.1 2) (S.1 13) (S.2.2.2 0) (S.2.2.1 3) (S.2.2.1 4) (S.1 14) (S.2.2.1 5) (S.1 15) (S.2.2.1 6) (S.1 16) (S.2.2.1 7) (S.1 17) (S.2.2.1 8) (S.1 30) (S.1 31) (S.1 32) (S.1 33) (S.1 34) (S.1 35) (S.1 36) (S.2.2.1 18) (S.2.2.1 19) (S.2.2.1 20) (S.1 37) (S.2.2.2 2) (S.2.2.1 21) (S.2.2.1 22) (S.1 38) (S.2.2.1 23) (S.1 39) (S.2.2.1 24) (S.1 40) (S.2.2.1 25) (S.1 41) (S.2.2.1 26) (S.1 42) (S.1 43) (S.1 44) (S.1 45) (S.1 46) (S.1 47) (S.1 48) (S.2.2.1 27) (S.2.2.1 28) (S.2.2.1 29) (S.1 49) (S.2.2.2 3) (S.2.2.1 30) (S.2.2.1 31) (S.1 50) (S.2.2.1 32) (S.1 51) (S.2.2.1 33) (S.1 52) (S.2.2.1 34) (S.1 53) (S.2.2.1 35) (S.1 54) (S.1 55) (S.1 56) (S.1 57) (S.1 58) (S.1 59) (S.1 60) (S.2.2.1 36) (S.2.2.1 37) (S.2.2.1 38) (S.1 61) (S.2.2.2 4) (S.2.2.1 39) (S.2.2.1 40) (S.1 62) (S.2.2.1 41) (S.1 63) (S.2.2.1 42) (S.1 64) (S.2.2.1 43) (S.1 65) (S.2.2.1 44)).map fun u => ((u.1 0), (sA (sI (sA (sI (sA (sI (sA (sI (sA (sA (sB (sI (sA (sA (sA (sI (sI (sI (sI (sI (sI (sI (sI (sI S 0 (u.1 1)) 5 (u.1 2)) 6 (u.1 3)) 7 (u.1 4)) 8 (u.1 5)) 9 (u.1 6)) 10 (u.1 7)) 11 (u.1 8)) 12 (u.1 9)) 0 (u.2.2.1 0)) 1 (u.2.2.1 1)) 2 (u.2.2.1 2)) 13 (u.1 10)) 0 (u.2.2.2 0)) 3 (u.2.2.1 3)) 4 (u.2.2.1 4)) 14 (u.1 11)) 5 (u.2.2.1 5)) 15 (u.1 12)) 6 (u.2.2.1 6)) 16 (u.1 13)) 7 (u.2.2.1 7)) 17 (u.1 14)) 8 (u.2.2.1 8)))
set_option maxHeartbeats 8000000 in
set_option maxRecDepth 100000 in
theorem cxx_undo (l : Launch) (E : vE) (F : Nat) (a : Nat → Nat) (S : vS) (r : Int32) (S2 : vS) (h : xx_undo F S = some (r, S2)) : CtI l yX11_undo cX11_undo 2 (some .int) 4 E [.ref (a 0)] (wf_X11 E a S) (wf_X11 E a S2) r := by
  unfold xx_undo at h
  obtain ⟨u, hu, h2⟩ := mp_some h
  cases h2
  exact CtI.frame (ct_X11_undo l E (a 0) (a 1) (a 19) (a 37) (a 92) (a 94) (a 113) (a 117) (a 121) (a 124) (a 126) (a 130) (a 2) (a 7) (a 11) (a 13) (a 15) (a 17) (a 3) (a 5) (a 6) (a 4) (a 8) (a 9) (a 10) (a 12) (a 14) (a 16) (a 18) (a 38) (a 56) (a 74) (a 39) (a 44) (a 48) (a 50) (a 52) (a 54) (a 40) (a 42) (a 43) (a 41) (a 45) (a 46) (a 47) (a 49) (a 51) (a 53) (a 55) (a 57) (a 62) (a 66) (a 68) (a 70) (a 72) (a 58) (a 60) (a 61) (a 59) (a 63) (a 64) (a 65) (a 67) (a 69) (a 71) (a 73) (a 75) (a 80) (a 84) (a 86) (a 88) (a 90) (a 76) (a 78) (a 79) (a 77) (a 81) (a 82) (a 83) (a 85) (a 87) (a 89) (a 91) (S.1 0) (S.1 1) (S.1 2) (S.1 3) (S.1 4) (S.1 5) (S.2.1 0) (S.2.1 1) (S.1 6) (S.1 7) (S.1 8) (S.1 9) (S.1 10) (S.1 11) (S.1 12) (S.2.2.1 0) (S.2.2.1 1) (S.2.2.1 2) (S.1 13) (S.2.2.2 0) (S.2.2.1 3) (S.2.2.1 4) (S.1 14) (S.2.2.1 5) (S.1 15) (S.2.2.1 6) (S.1 16) (S.2.2.1 7) (S.1 17) (S.2.2.1 8) (S.1 30) (S.1 31) (S.1 32) (S.1 33) (S.1 34) (S.1 35) (S.1 36) (S.2.2.1 18) (S.2.2.1 19) (S.2.2.1 20) (S.1 37) (S.2.2.2 2) (S.2.2.1 21) (S.2.2.1 22) (S.1 38) (S.2.2.1 23) (S.1 39) (S.2.2.1 24) (S.1 40) (S.2.2.1 25) (S.1 41) (S.2.2.1 26) (S.1 42) (S.1 43) (S.1 44) (S.1 45) (S.1 46) (S.1 47) (S.1 48) (S.2.2.1 27) (S.2.2.1 28) (S.2.2.1 29) (S.1 49) (S.2.2.2 3) (S.2.2.1 30) (S.2.2.1 31) (S.1 50) (S.2.2.1 32) (S.1 51) (S.2.2.1 33) (S.1 52) (S.2.2.1 34) (S.1 53) (S.2.2.1 35) (S.1 54) (S.1 55) (S.1 56) (S.1 57) (S.1 58) (S.1 59) (S.1 60) (S.2.2.1 36) (S.2.2.1 37) (S.2.2.1 38) (S.1 61) (S.2.2.2 4) (S.2.2.1 39) (S.2.2.1 40) (S.1 62) (S.2.2.1 41) (S.1 63) (S.2.2.1 42) (S.1 64) (S.2.2.1 43) (S.1 65) (S.2.2.1 44) u hu) [0, 1, 2, 3, 4, 5, 6, 7, 8, 9, 10, 11, 12, 13, 14, 15, 16, 17, 18, 37, 38, 39, 40, 41, 42, 43, 44, 45, 46, 47, 48, 49, 50, 51, 52, 53, 54, 55, 56, 57, 58, 59, 60, 61, 62, 63, 64, 65, 66, 67, 68, 69, 70, 71, 72, 73, 74, 75, 76, 77, 78, 79, 80, 81, 82, 83, 84, 85, 86, 87, 88, 89, 90, 91] rfl (by decide +kernel) rfl rfl
def ok_status (F : Nat) (Rel : vS → vS → Prop) : Prop := ∀ (S T : vS), Rel S T → ∃ (r : Int32) (S2 T2 : vS), xx_status F S = some (r, S2) ∧ xm_status F T = some (r, T2) ∧ Rel S2 T2
def ok_top (F : Nat) (Rel : vS → vS → Prop) : Prop := ∀ (S T : vS), Rel S T → ∃ (r : Int64) (S2 T2 : vS), xx_top F S = some (r, S2) ∧ xm_top F T = some (r, T2) ∧ Rel S2 T2
def ok_bottom (F : Nat) (Rel : vS → vS → Prop) : Prop := ∀ (S T : vS), Rel S T → ∃ (r : Int64) (S2 T2 : vS), xx_bottom F S = some (r, S2) ∧ xm_bottom F T = some (r, T2) ∧ Rel S2 T2
def ok_tray (F : Nat) (Rel : vS → vS → Prop) : Prop := ∀ (S T : vS) (v1 : Int32) (v2 : Int32) (v3 : Int32), Rel S T → ∃ (r : Int32) (S2 T2 : vS), xx_tray F S v1 v2 v3 = some (r, S2) ∧ xm_tray F T v1 v2 v3 = some (r, T2) ∧ Rel S2 T2
def ok_write (F : Nat) (Rel : vS → vS → Prop) : Prop := ∀ (S T : vS) (v1 : Int32) (v2 : Int32) (v3 : Int64), Rel S T → ∃ (r : Int32) (S2 T2 : vS), xx_write F S v1 v2 v3 = some (r, S2) ∧ xm_write F T v1 v2 v3 = some (r, T2) ∧ Rel S2 T2
def ok_read (F : Nat) (Rel : vS → vS → Prop) : Prop := ∀ (S T : vS) (v1 : Int32) (v2 : Int32), Rel S T → ∃ (r : Int64) (S2 T2 : vS), xx_read F S v1 v2 = some (r, S2) ∧ xm_read F T v1 v2 = some (r, T2) ∧ Rel S2 T2
def ok_pour (F : Nat) (Rel : vS → vS → Prop) : Prop := ∀ (S T : vS) (v1 : Int32) (v2 : Int32) (v3 : Int32) (v4 : Int32) (v5 : Int32), Rel S T → ∃ (r : Int32) (S2 T2 : vS), xx_pour F S v1 v2 v3 v4 v5 = some (r, S2) ∧ xm_pour F T v1 v2 v3 v4 v5 = some (r, T2) ∧ Rel S2 T2
def ok_feed (F : Nat) (Rel : vS → vS → Prop) : Prop := ∀ (S T : vS) (v1 : Int32) (v2 : Int32) (v3 : Int32) (v4 : Int32) (v5 : Int32), Rel S T → ∃ (r : Int32) (S2 T2 : vS), xx_feed F S v1 v2 v3 v4 v5 = some (r, S2) ∧ xm_feed F T v1 v2 v3 v4 v5 = some (r, T2) ∧ Rel S2 T2
def ok_city (F : Nat) (Rel : vS → vS → Prop) : Prop := ∀ (S T : vS) (v1 : Int32), Rel S T → ∃ (r : Int32) (S2 T2 : vS), xx_city F S v1 = some (r, S2) ∧ xm_city F T v1 = some (r, T2) ∧ Rel S2 T2
def ok_weeks (F : Nat) (Rel : vS → vS → Prop) : Prop := ∀ (S T : vS) (v1 : Int32), Rel S T → ∃ (r : Int32) (S2 T2 : vS), xx_weeks F S v1 = some (r, S2) ∧ xm_weeks F T v1 = some (r, T2) ∧ Rel S2 T2
def ok_fault (F : Nat) (Rel : vS → vS → Prop) : Prop := ∀ (S T : vS) (v1 : Int32), Rel S T → ∃ (r : Int32) (S2 T2 : vS), xx_fault F S v1 = some (r, S2) ∧ xm_fault F T v1 = some (r, T2) ∧ Rel S2 T2
def ok_told (F : Nat) (Rel : vS → vS → Prop) : Prop := ∀ (S T : vS) (v1 : Int32), Rel S T → ∃ (r : Int32) (S2 T2 : vS), xx_told F S v1 = some (r, S2) ∧ xm_told F T v1 = some (r, T2) ∧ Rel S2 T2
def ok_extra (F : Nat) (Rel : vS → vS → Prop) : Prop := ∀ (S T : vS) (v1 : Int32) (v2 : Int32), Rel S T → ∃ (r : Int32) (S2 T2 : vS), xx_extra F S v1 v2 = some (r, S2) ∧ xm_extra F T v1 v2 = some (r, T2) ∧ Rel S2 T2
def ok_happening (F : Nat) (Rel : vS → vS → Prop) : Prop := ∀ (S T : vS) (v1 : Int32) (v2 : Int32), Rel S T → ∃ (r : Int32) (S2 T2 : vS), xx_happening F S v1 v2 = some (r, S2) ∧ xm_happening F T v1 v2 = some (r, T2) ∧ Rel S2 T2
def ok_watcher (F : Nat) (Rel : vS → vS → Prop) : Prop := ∀ (S T : vS) (v1 : Int32) (v2 : Int32), Rel S T → ∃ (r : Int32) (S2 T2 : vS), xx_watcher F S v1 v2 = some (r, S2) ∧ xm_watcher F T v1 v2 = some (r, T2) ∧ Rel S2 T2
def ok_standing (F : Nat) (Rel : vS → vS → Prop) : Prop := ∀ (S T : vS) (v1 : Int32), Rel S T → ∃ (r : Int32) (S2 T2 : vS), xx_standing F S v1 = some (r, S2) ∧ xm_standing F T v1 = some (r, T2) ∧ Rel S2 T2
def ok_road (F : Nat) (Rel : vS → vS → Prop) : Prop := ∀ (S T : vS) (v1 : Int32) (v2 : Int32), Rel S T → ∃ (r : Int32) (S2 T2 : vS), xx_road F S v1 v2 = some (r, S2) ∧ xm_road F T v1 v2 = some (r, T2) ∧ Rel S2 T2
def ok_hour (F : Nat) (Rel : vS → vS → Prop) : Prop := ∀ (S T : vS) (v1 : Int32), Rel S T → ∃ (r : Int32) (S2 T2 : vS), xx_hour F S v1 = some (r, S2) ∧ xm_hour F T v1 = some (r, T2) ∧ Rel S2 T2
def ok_order (F : Nat) (Rel : vS → vS → Prop) : Prop := ∀ (S T : vS) (v1 : Int32) (v2 : Int32) (v3 : Int32), Rel S T → isZ v3 = true → ∃ (r : Int32) (S2 T2 : vS), xx_order F S v1 v2 v3 = some (r, S2) ∧ xm_order F T v1 v2 v3 = some (r, T2) ∧ Rel S2 T2
def ok_put (F : Nat) (Rel : vS → vS → Prop) : Prop := ∀ (S T : vS) (v1 : Int32) (v2 : Int32), Rel S T → ∃ (r : Int32) (S2 T2 : vS), xx_put F S v1 v2 = some (r, S2) ∧ xm_put F T v1 v2 = some (r, T2) ∧ Rel S2 T2
def ok_raise (F : Nat) (Rel : vS → vS → Prop) : Prop := ∀ (S T : vS) (v1 : Int32) (v2 : Int32), Rel S T → ∃ (r : Int32) (S2 T2 : vS), xx_raise F S v1 v2 = some (r, S2) ∧ xm_raise F T v1 v2 = some (r, T2) ∧ Rel S2 T2
def ok_plan (F : Nat) (Rel : vS → vS → Prop) : Prop := ∀ (S T : vS) (v1 : Int32) (v2 : Int32) (v3 : Int32), Rel S T → ∃ (r : Int32) (S2 T2 : vS), xx_plan F S v1 v2 v3 = some (r, S2) ∧ xm_plan F T v1 v2 v3 = some (r, T2) ∧ Rel S2 T2
def ok_bear (F : Nat) (Rel : vS → vS → Prop) : Prop := ∀ (S T : vS) (v1 : Int32), Rel S T → ∃ (r : Int32) (S2 T2 : vS), xx_bear F S v1 = some (r, S2) ∧ xm_bear F T v1 = some (r, T2) ∧ Rel S2 T2
def ok_post (F : Nat) (Rel : vS → vS → Prop) : Prop := ∀ (S T : vS) (v1 : Int32) (v2 : Int32), Rel S T → ∃ (r : Int32) (S2 T2 : vS), xx_post F S v1 v2 = some (r, S2) ∧ xm_post F T v1 v2 = some (r, T2) ∧ Rel S2 T2
def ok_scare (F : Nat) (Rel : vS → vS → Prop) : Prop := ∀ (S T : vS) (v1 : Int32) (v2 : Int32), Rel S T → ∃ (r : Int32) (S2 T2 : vS), xx_scare F S v1 v2 = some (r, S2) ∧ xm_scare F T v1 v2 = some (r, T2) ∧ Rel S2 T2
def ok_rule (F : Nat) (Rel : vS → vS → Prop) : Prop := ∀ (S T : vS) (v1 : Int32) (v2 : Int32), Rel S T → ∃ (r : Int32) (S2 T2 : vS), xx_rule F S v1 v2 = some (r, S2) ∧ xm_rule F T v1 v2 = some (r, T2) ∧ Rel S2 T2
def ok_far (F : Nat) (Rel : vS → vS → Prop) : Prop := ∀ (S T : vS) (v1 : Int32) (v2 : Int32), Rel S T → ∃ (r : Int32) (S2 T2 : vS), xx_far F S v1 v2 = some (r, S2) ∧ xm_far F T v1 v2 = some (r, T2) ∧ Rel S2 T2
def ok_way (F : Nat) (Rel : vS → vS → Prop) : Prop := ∀ (S T : vS) (v1 : Int32) (v2 : Int32), Rel S T → ∃ (r : Int32) (S2 T2 : vS), xx_way F S v1 v2 = some (r, S2) ∧ xm_way F T v1 v2 = some (r, T2) ∧ Rel S2 T2
def ok_centre (F : Nat) (Rel : vS → vS → Prop) : Prop := ∀ (S T : vS), Rel S T → ∃ (r : Int32) (S2 T2 : vS), xx_centre F S = some (r, S2) ∧ xm_centre F T = some (r, T2) ∧ Rel S2 T2
def ok_cut (F : Nat) (Rel : vS → vS → Prop) : Prop := ∀ (S T : vS) (v1 : Int32) (v2 : Int32), Rel S T → ∃ (r : Int32) (S2 T2 : vS), xx_cut F S v1 v2 = some (r, S2) ∧ xm_cut F T v1 v2 = some (r, T2) ∧ Rel S2 T2
def ok_goal (F : Nat) (Rel : vS → vS → Prop) : Prop := ∀ (S T : vS) (v1 : Int32), Rel S T → ∃ (r : Int32) (S2 T2 : vS), xx_goal F S v1 = some (r, S2) ∧ xm_goal F T v1 = some (r, T2) ∧ Rel S2 T2
def ok_whereIn (F : Nat) (Rel : vS → vS → Prop) : Prop := ∀ (S T : vS) (v1 : Int32) (v2 : Int32), Rel S T → ∃ (r : Int32) (S2 T2 : vS), xx_whereIn F S v1 v2 = some (r, S2) ∧ xm_whereIn F T v1 v2 = some (r, T2) ∧ Rel S2 T2
def ok_standingIn (F : Nat) (Rel : vS → vS → Prop) : Prop := ∀ (S T : vS) (v1 : Int32) (v2 : Int32), Rel S T → ∃ (r : Int32) (S2 T2 : vS), xx_standingIn F S v1 v2 = some (r, S2) ∧ xm_standingIn F T v1 v2 = some (r, T2) ∧ Rel S2 T2
def ok_overIn (F : Nat) (Rel : vS → vS → Prop) : Prop := ∀ (S T : vS) (v1 : Int32), Rel S T → ∃ (r : Int32) (S2 T2 : vS), xx_overIn F S v1 = some (r, S2) ∧ xm_overIn F T v1 = some (r, T2) ∧ Rel S2 T2
def ok_becomes (F : Nat) (Rel : vS → vS → Prop) : Prop := ∀ (S T : vS) (v1 : Int32), Rel S T → ∃ (r : Int32) (S2 T2 : vS), xx_becomes F S v1 = some (r, S2) ∧ xm_becomes F T v1 = some (r, T2) ∧ Rel S2 T2
def ok_wagesIn (F : Nat) (Rel : vS → vS → Prop) : Prop := ∀ (S T : vS) (v1 : Int32) (v2 : Int32), Rel S T → ∃ (r : Int32) (S2 T2 : vS), xx_wagesIn F S v1 v2 = some (r, S2) ∧ xm_wagesIn F T v1 v2 = some (r, T2) ∧ Rel S2 T2
def ok_warnedIn (F : Nat) (Rel : vS → vS → Prop) : Prop := ∀ (S T : vS) (v1 : Int32) (v2 : Int32), Rel S T → ∃ (r : Int32) (S2 T2 : vS), xx_warnedIn F S v1 v2 = some (r, S2) ∧ xm_warnedIn F T v1 v2 = some (r, T2) ∧ Rel S2 T2
def ok_attends (F : Nat) (Rel : vS → vS → Prop) : Prop := ∀ (S T : vS) (v1 : Int32) (v2 : Int32), Rel S T → ∃ (r : Int32) (S2 T2 : vS), xx_attends F S v1 v2 = some (r, S2) ∧ xm_attends F T v1 v2 = some (r, T2) ∧ Rel S2 T2
def ok_best (F : Nat) (Rel : vS → vS → Prop) : Prop := ∀ (S T : vS) (v1 : Int32), Rel S T → ∃ (r : Int32) (S2 T2 : vS), xx_best F S v1 = some (r, S2) ∧ xm_best F T v1 = some (r, T2) ∧ Rel S2 T2
def ok_bestWages (F : Nat) (Rel : vS → vS → Prop) : Prop := ∀ (S T : vS) (v1 : Int32), Rel S T → ∃ (r : Int32) (S2 T2 : vS), xx_bestWages F S v1 = some (r, S2) ∧ xm_bestWages F T v1 = some (r, T2) ∧ Rel S2 T2
def ok_fewest (F : Nat) (Rel : vS → vS → Prop) : Prop := ∀ (S T : vS), Rel S T → ∃ (r : Int32) (S2 T2 : vS), xx_fewest F S = some (r, S2) ∧ xm_fewest F T = some (r, T2) ∧ Rel S2 T2
def ok_fewestSet (F : Nat) (Rel : vS → vS → Prop) : Prop := ∀ (S T : vS), Rel S T → ∃ (r : Int32) (S2 T2 : vS), xx_fewestSet F S = some (r, S2) ∧ xm_fewestSet F T = some (r, T2) ∧ Rel S2 T2
def ok_explained (F : Nat) (Rel : vS → vS → Prop) : Prop := ∀ (S T : vS) (v1 : Int32), Rel S T → ∃ (r : Int32) (S2 T2 : vS), xx_explained F S v1 = some (r, S2) ∧ xm_explained F T v1 = some (r, T2) ∧ Rel S2 T2
def ok_sure (F : Nat) (Rel : vS → vS → Prop) : Prop := ∀ (S T : vS) (v1 : Int32), Rel S T → ∃ (r : Int32) (S2 T2 : vS), xx_sure F S v1 = some (r, S2) ∧ xm_sure F T v1 = some (r, T2) ∧ Rel S2 T2
def ok_laws (F : Nat) (Rel : vS → vS → Prop) : Prop := ∀ (S T : vS) (v1 : Int32) (v2 : Int32), Rel S T → ∃ (r : Int32) (S2 T2 : vS), xx_laws F S v1 v2 = some (r, S2) ∧ xm_laws F T v1 v2 = some (r, T2) ∧ Rel S2 T2
def ok_lawFirst (F : Nat) (Rel : vS → vS → Prop) : Prop := ∀ (S T : vS) (v1 : Int32) (v2 : Int32), Rel S T → ∃ (r : Int32) (S2 T2 : vS), xx_lawFirst F S v1 v2 = some (r, S2) ∧ xm_lawFirst F T v1 v2 = some (r, T2) ∧ Rel S2 T2
def ok_guard (F : Nat) (Rel : vS → vS → Prop) : Prop := ∀ (S T : vS), Rel S T → ∃ (r : Int32) (S2 T2 : vS), xx_guard F S = some (r, S2) ∧ xm_guard F T = some (r, T2) ∧ Rel S2 T2
def ok_guardLeft (F : Nat) (Rel : vS → vS → Prop) : Prop := ∀ (S T : vS), Rel S T → ∃ (r : Int32) (S2 T2 : vS), xx_guardLeft F S = some (r, S2) ∧ xm_guardLeft F T = some (r, T2) ∧ Rel S2 T2
def ok_game (F : Nat) (Rel : vS → vS → Prop) : Prop := ∀ (S T : vS) (v1 : Int32) (v2 : Int32), Rel S T → ∃ (r : Int32) (S2 T2 : vS), xx_game F S v1 v2 = some (r, S2) ∧ xm_game F T v1 v2 = some (r, T2) ∧ Rel S2 T2
def ok_moveOf (F : Nat) (Rel : vS → vS → Prop) : Prop := ∀ (S T : vS) (v1 : Int32) (v2 : Int32), Rel S T → ∃ (r : Int32) (S2 T2 : vS), xx_moveOf F S v1 v2 = some (r, S2) ∧ xm_moveOf F T v1 v2 = some (r, T2) ∧ Rel S2 T2
def ok_falls (F : Nat) (Rel : vS → vS → Prop) : Prop := ∀ (S T : vS) (v1 : Int32), Rel S T → ∃ (r : Int32) (S2 T2 : vS), xx_falls F S v1 = some (r, S2) ∧ xm_falls F T v1 = some (r, T2) ∧ Rel S2 T2
def ok_copyStanding (F : Nat) (Rel : vS → vS → Prop) : Prop := ∀ (S T : vS) (v1 : Int32), Rel S T → ∃ (r : Int32) (S2 T2 : vS), xx_copyStanding F S v1 = some (r, S2) ∧ xm_copyStanding F T v1 = some (r, T2) ∧ Rel S2 T2
def ok_live (F : Nat) (Rel : vS → vS → Prop) : Prop := ∀ (S T : vS) (v1 : Int32), Rel S T → ∃ (r : Int32) (S2 T2 : vS), xx_live F S v1 = some (r, S2) ∧ xm_live F T v1 = some (r, T2) ∧ Rel S2 T2
def ok_lived (F : Nat) (Rel : vS → vS → Prop) : Prop := ∀ (S T : vS) (v1 : Int32), Rel S T → ∃ (r : Int32) (S2 T2 : vS), xx_lived F S v1 = some (r, S2) ∧ xm_lived F T v1 = some (r, T2) ∧ Rel S2 T2
def ok_mean (F : Nat) (Rel : vS → vS → Prop) : Prop := ∀ (S T : vS) (v1 : Int32) (v2 : Int32), Rel S T → ∃ (r : Int32) (S2 T2 : vS), xx_mean F S v1 v2 = some (r, S2) ∧ xm_mean F T v1 v2 = some (r, T2) ∧ Rel S2 T2
def ok_mark (F : Nat) (Rel : vS → vS → Prop) : Prop := ∀ (S T : vS), Rel S T → ∃ (r : Int32) (S2 T2 : vS), xx_mark F S = some (r, S2) ∧ xm_mark F T = some (r, T2) ∧ Rel S2 T2
def ok_undo (F : Nat) (Rel : vS → vS → Prop) : Prop := ∀ (S T : vS), Rel S T → ∃ (r : Int32) (S2 T2 : vS), xx_undo F S = some (r, S2) ∧ xm_undo F T = some (r, T2) ∧ Rel S2 T2
def AllOk (F : Nat) (Rel : vS → vS → Prop) : Prop := ok_status F Rel ∧ ok_top F Rel ∧ ok_bottom F Rel ∧ ok_tray F Rel ∧ ok_write F Rel ∧ ok_read F Rel ∧ ok_pour F Rel ∧ ok_feed F Rel ∧ ok_city F Rel ∧ ok_weeks F Rel ∧ ok_fault F Rel ∧ ok_told F Rel ∧ ok_extra F Rel ∧ ok_happening F Rel ∧ ok_watcher F Rel ∧ ok_standing F Rel ∧ ok_road F Rel ∧ ok_hour F Rel ∧ ok_order F Rel ∧ ok_put F Rel ∧ ok_raise F Rel ∧ ok_plan F Rel ∧ ok_bear F Rel ∧ ok_post F Rel ∧ ok_scare F Rel ∧ ok_rule F Rel ∧ ok_far F Rel ∧ ok_way F Rel ∧ ok_centre F Rel ∧ ok_cut F Rel ∧ ok_goal F Rel ∧ ok_whereIn F Rel ∧ ok_standingIn F Rel ∧ ok_overIn F Rel ∧ ok_becomes F Rel ∧ ok_wagesIn F Rel ∧ ok_warnedIn F Rel ∧ ok_attends F Rel ∧ ok_best F Rel ∧ ok_bestWages F Rel ∧ ok_fewest F Rel ∧ ok_fewestSet F Rel ∧ ok_explained F Rel ∧ ok_sure F Rel ∧ ok_laws F Rel ∧ ok_lawFirst F Rel ∧ ok_guard F Rel ∧ ok_guardLeft F Rel ∧ ok_game F Rel ∧ ok_moveOf F Rel ∧ ok_falls F Rel ∧ ok_copyStanding F Rel ∧ ok_live F Rel ∧ ok_lived F Rel ∧ ok_mean F Rel ∧ ok_mark F Rel ∧ ok_undo F Rel
