def xx_status (F : Nat) (S : vS) : Option (Int32 × vS) := (X11_status (S.1 5)).map fun u => (u, S)
set_option maxHeartbeats 8000000 in
set_option maxRecDepth 100000 in
theorem cxx_status (l : Launch) (E : vE) (F : Nat) (a : Nat → Nat) (S : vS) (r : Int32) (S2 : vS) (h : xx_status F S = some (r, S2)) : CtI l yX11_status cX11_status 1 (some .int) 0 E [.ref (a 0)] (wf_X11 E a S) (wf_X11 E a S2) r := by
  unfold xx_status at h
  obtain ⟨u, hu, h2⟩ := mp_some h
  cases h2
  exact CtI.frame (ct_X11_status l E (a 0) (a 1) (a 19) (a 37) (a 92) (a 94) (a 113) (a 117) (a 121) (a 124) (a 126) (a 130) (S.1 0) (S.1 1) (S.1 2) (S.1 3) (S.1 4) (S.1 5) (S.2.1 0) (S.2.1 1) u hu) [0] rfl (by decide +kernel) rfl rfl
def xx_top (F : Nat) (S : vS) : Option (Int64 × vS) := (X11_top (S.2.1 0)).map fun u => (u, S)
set_option maxHeartbeats 8000000 in
set_option maxRecDepth 100000 in
theorem cxx_top (l : Launch) (E : vE) (F : Nat) (a : Nat → Nat) (S : vS) (r : Int64) (S2 : vS) (h : xx_top F S = some (r, S2)) : CtL l yX11_top cX11_top 1 (some .long) 0 E [.ref (a 0)] (wf_X11 E a S) (wf_X11 E a S2) r := by
  unfold xx_top at h
  obtain ⟨u, hu, h2⟩ := mp_some h
  cases h2
  exact CtL.frame (ct_X11_top l E (a 0) (a 1) (a 19) (a 37) (a 92) (a 94) (a 113) (a 117) (a 121) (a 124) (a 126) (a 130) (S.1 0) (S.1 1) (S.1 2) (S.1 3) (S.1 4) (S.1 5) (S.2.1 0) (S.2.1 1) u hu) [0] rfl (by decide +kernel) rfl rfl
def xx_bottom (F : Nat) (S : vS) : Option (Int64 × vS) := (X11_bottom (S.2.1 1)).map fun u => (u, S)
set_option maxHeartbeats 8000000 in
set_option maxRecDepth 100000 in
theorem cxx_bottom (l : Launch) (E : vE) (F : Nat) (a : Nat → Nat) (S : vS) (r : Int64) (S2 : vS) (h : xx_bottom F S = some (r, S2)) : CtL l yX11_bottom cX11_bottom 1 (some .long) 0 E [.ref (a 0)] (wf_X11 E a S) (wf_X11 E a S2) r := by
  unfold xx_bottom at h
  obtain ⟨u, hu, h2⟩ := mp_some h
  cases h2
  exact CtL.frame (ct_X11_bottom l E (a 0) (a 1) (a 19) (a 37) (a 92) (a 94) (a 113) (a 117) (a 121) (a 124) (a 126) (a 130) (S.1 0) (S.1 1) (S.1 2) (S.1 3) (S.1 4) (S.1 5) (S.2.1 0) (S.2.1 1) u hu) [0] rfl (by decide +kernel) rfl rfl
def xx_tray (F : Nat) (S : vS) (v1 : Int32) (v2 : Int32) (v3 : Int32) : Option (Int32 × vS) := (X11_tray F (S.1 5) (S.2.2.2 6) (S.2.2.1 57) (S.2.2.1 58) v1 v2 v3).map fun u => (u.1, (sA (sA (sB (sI S 5 u.2.1) 6 u.2.2.1) 57 u.2.2.2.1) 58 u.2.2.2.2))
set_option maxHeartbeats 8000000 in
set_option maxRecDepth 100000 in
theorem cxx_tray (l : Launch) (E : vE) (F : Nat) (a : Nat → Nat) (S : vS) (v1 : Int32) (v2 : Int32) (v3 : Int32) (r : Int32) (S2 : vS) (h : xx_tray F S v1 v2 v3 = some (r, S2)) : CtI l yX11_tray cX11_tray 4 (some .boolean) 2 E [.ref (a 0), .int v1, .int v2, .int v3] (wf_X11 E a S) (wf_X11 E a S2) r := by
  unfold xx_tray at h
  obtain ⟨u, hu, h2⟩ := mp_some h
  cases h2
  exact CtI.frame (ct_X11_tray l E F (a 0) (a 1) (a 19) (a 37) (a 92) (a 94) (a 113) (a 117) (a 121) (a 124) (a 126) (a 130) (a 118) (a 119) (a 120) (S.1 0) (S.1 1) (S.1 2) (S.1 3) (S.1 4) (S.1 5) (S.2.1 0) (S.2.1 1) (S.2.2.2 6) (S.2.2.1 57) (S.2.2.1 58) v1 v2 v3 u hu) [0, 117, 118, 119, 120] rfl (by decide +kernel) rfl rfl
def xx_write (F : Nat) (S : vS) (v1 : Int32) (v2 : Int32) (v3 : Int64) : Option (Int32 × vS) := (X11_write (S.1 5) (S.2.2.2 6) (S.2.2.1 57) (S.2.2.1 58) v1 v2 v3).map fun u => (u.1, (sB (sI S 5 u.2.1) 6 u.2.2))
set_option maxHeartbeats 8000000 in
set_option maxRecDepth 100000 in
theorem cxx_write (l : Launch) (E : vE) (F : Nat) (a : Nat → Nat) (S : vS) (v1 : Int32) (v2 : Int32) (v3 : Int64) (r : Int32) (S2 : vS) (h : xx_write F S v1 v2 v3 = some (r, S2)) : CtI l yX11_write cX11_write 6 (some .boolean) 3 E [.ref (a 0), .int v1, .int v2, .long v3] (wf_X11 E a S) (wf_X11 E a S2) r := by
  unfold xx_write at h
  obtain ⟨u, hu, h2⟩ := mp_some h
  cases h2
  exact CtI.frame (ct_X11_write l E (a 0) (a 1) (a 19) (a 37) (a 92) (a 94) (a 113) (a 117) (a 121) (a 124) (a 126) (a 130) (a 118) (a 119) (a 120) (S.1 0) (S.1 1) (S.1 2) (S.1 3) (S.1 4) (S.1 5) (S.2.1 0) (S.2.1 1) (S.2.2.2 6) (S.2.2.1 57) (S.2.2.1 58) v1 v2 v3 u hu) [0, 117, 118, 119, 120] rfl (by decide +kernel) rfl rfl
def xx_read (F : Nat) (S : vS) (v1 : Int32) (v2 : Int32) : Option (Int64 × vS) := (X11_read (S.1 5) (S.2.2.2 6) (S.2.2.1 58) v1 v2).map fun u => (u.1, (sI S 5 u.2))
set_option maxHeartbeats 8000000 in
set_option maxRecDepth 100000 in
theorem cxx_read (l : Launch) (E : vE) (F : Nat) (a : Nat → Nat) (S : vS) (v1 : Int32) (v2 : Int32) (r : Int64) (S2 : vS) (h : xx_read F S v1 v2 = some (r, S2)) : CtL l yX11_read cX11_read 4 (some .long) 3 E [.ref (a 0), .int v1, .int v2] (wf_X11 E a S) (wf_X11 E a S2) r := by
  unfold xx_read at h
  obtain ⟨u, hu, h2⟩ := mp_some h
  cases h2
  exact CtL.frame (ct_X11_read l E (a 0) (a 1) (a 19) (a 37) (a 92) (a 94) (a 113) (a 117) (a 121) (a 124) (a 126) (a 130) (a 118) (a 119) (a 120) (S.1 0) (S.1 1) (S.1 2) (S.1 3) (S.1 4) (S.1 5) (S.2.1 0) (S.2.1 1) (S.2.2.2 6) (S.2.2.1 58) v1 v2 u hu) [0, 117, 118, 120] rfl (by decide +kernel) rfl rfl
def xx_pour (F : Nat) (S : vS) (v1 : Int32) (v2 : Int32) (v3 : Int32) (v4 : Int32) (v5 : Int32) : Option (Int32 × vS) := (X11_pour (S.1 5) (S.2.2.2 6) (S.2.2.1 57) (S.2.2.1 58) v1 v2 v3 v4 v5).map fun u => (u.1, (sB (sI S 5 u.2.1) 6 u.2.2))
set_option maxHeartbeats 8000000 in
set_option maxRecDepth 100000 in
theorem cxx_pour (l : Launch) (E : vE) (F : Nat) (a : Nat → Nat) (S : vS) (v1 : Int32) (v2 : Int32) (v3 : Int32) (v4 : Int32) (v5 : Int32) (r : Int32) (S2 : vS) (h : xx_pour F S v1 v2 v3 v4 v5 = some (r, S2)) : CtI l yX11_pour cX11_pour 6 (some .boolean) 3 E [.ref (a 0), .int v1, .int v2, .int v3, .int v4, .int v5] (wf_X11 E a S) (wf_X11 E a S2) r := by
  unfold xx_pour at h
  obtain ⟨u, hu, h2⟩ := mp_some h
  cases h2
  exact CtI.frame (ct_X11_pour l E (a 0) (a 1) (a 19) (a 37) (a 92) (a 94) (a 113) (a 117) (a 121) (a 124) (a 126) (a 130) (a 118) (a 119) (a 120) (S.1 0) (S.1 1) (S.1 2) (S.1 3) (S.1 4) (S.1 5) (S.2.1 0) (S.2.1 1) (S.2.2.2 6) (S.2.2.1 57) (S.2.2.1 58) v1 v2 v3 v4 v5 u hu) [0, 117, 118, 119, 120] rfl (by decide +kernel) rfl rfl
def xx_feed (F : Nat) (S : vS) (v1 : Int32) (v2 : Int32) (v3 : Int32) (v4 : Int32) (v5 : Int32) : Option (Int32 × vS) := (X11_feed (S.1 66) (S.2.2.1 45) v1 v2 v3 v4 v5).map fun u => (u.1, (sA (sI S 66 u.2.1) 45 u.2.2))
set_option maxHeartbeats 8000000 in
set_option maxRecDepth 100000 in
theorem cxx_feed (l : Launch) (E : vE) (F : Nat) (a : Nat → Nat) (S : vS) (v1 : Int32) (v2 : Int32) (v3 : Int32) (v4 : Int32) (v5 : Int32) (r : Int32) (S2 : vS) (h : xx_feed F S v1 v2 v3 v4 v5 = some (r, S2)) : CtI l yX11_feed cX11_feed 6 (some .int) 2 E [.ref (a 0), .int v1, .int v2, .int v3, .int v4, .int v5] (wf_X11 E a S) (wf_X11 E a S2) r := by
  unfold xx_feed at h
  obtain ⟨u, hu, h2⟩ := mp_some h
  cases h2
  exact CtI.frame (ct_X11_feed l E (a 0) (a 1) (a 19) (a 37) (a 92) (a 94) (a 113) (a 117) (a 121) (a 124) (a 126) (a 130) (a 93) (S.1 0) (S.1 1) (S.1 2) (S.1 3) (S.1 4) (S.1 5) (S.2.1 0) (S.2.1 1) (S.1 66) (S.1 67) (S.1 68) (S.1 69) (S.1 70) (S.1 71) (S.2.1 2) (S.1 72) (S.1 73) (S.2.2.1 45) v1 v2 v3 v4 v5 u hu) [0, 92, 93] rfl (by decide +kernel) rfl rfl
def xx_city (F : Nat) (S : vS) (v1 : Int32) : Option (Int32 × vS) := (X11_city F (S.1 2) (S.1 3) (S.1 4) (S.1 5) (S.1 6) (S.1 7) (S.1 8) (S.1 9) (S.1 10) (S.1 11) (S.1 12) (S.2.2.1 0) (S.2.2.1 1) (S.2.2.1 2) (S.1 13) (S.2.2.2 0) (S.2.2.1 3) (S.2.2.1 4) (S.1 14) (S.2.2.1 5) (S.1 15) (S.2.2.1 6) (S.1 16) (S.2.2.1 7) (S.1 17) (S.2.2.1 8) (S.1 66) (S.1 67) (S.1 68) (S.1 69) (S.1 70) (S.1 71) (S.2.1 2) (S.1 72) (S.1 73) (S.2.2.1 45) (S.1 74) (S.1 75) (S.1 76) (S.1 77) (S.1 78) (S.1 79) (S.1 80) (S.1 81) (S.2.2.1 46) (S.2.2.1 47) (S.2.2.1 48) (S.1 82) (S.2.2.2 5) (S.2.2.1 49) (S.2.2.1 50) (S.1 83) (S.2.2.1 51) (S.1 84) (S.2.2.1 52) (S.1 85) (S.2.2.1 53) (S.1 86) (S.2.2.1 54) v1).map fun u => ((u.1 0), (sI (sA (sI (sA (sI (sA (sI (sA (sA (sB (sI (sA (sA (sA (sI (sI (sI (sI (sI (sI (sI (sI (sI (sI (sJ (sI (sI (sI (sI (sI (sI (sA (sI (sA (sI (sA (sI (sA (sI (sA (sA (sB (sI (sA (sA (sA (sI (sI (sI (sI (sI (sI (sI (sI (sI (sI (sI S 2 (u.1 1)) 3 (u.1 2)) 4 (u.1 3)) 5 (u.1 4)) 6 (u.1 5)) 7 (u.1 6)) 8 (u.1 7)) 9 (u.1 8)) 10 (u.1 9)) 11 (u.1 10)) 12 (u.1 11)) 0 (u.2.2.1 0)) 1 (u.2.2.1 1)) 2 (u.2.2.1 2)) 13 (u.1 12)) 0 (u.2.2.2 0)) 3 (u.2.2.1 3)) 4 (u.2.2.1 4)) 14 (u.1 13)) 5 (u.2.2.1 5)) 15 (u.1 14)) 6 (u.2.2.1 6)) 16 (u.1 15)) 7 (u.2.2.1 7)) 17 (u.1 16)) 8 (u.2.2.1 8)) 66 (u.1 17)) 67 (u.1 18)) 68 (u.1 19)) 69 (u.1 20)) 70 (u.1 21)) 71 (u.1 22)) 2 (u.2.1 0)) 72 (u.1 23)) 73 (u.1 24)) 74 (u.1 25)) 75 (u.1 26)) 76 (u.1 27)) 77 (u.1 28)) 78 (u.1 29)) 79 (u.1 30)) 80 (u.1 31)) 81 (u.1 32)) 46 (u.2.2.1 9)) 47 (u.2.2.1 10)) 48 (u.2.2.1 11)) 82 (u.1 33)) 5 (u.2.2.2 1)) 49 (u.2.2.1 12)) 50 (u.2.2.1 13)) 83 (u.1 34)) 51 (u.2.2.1 14)) 84 (u.1 35)) 52 (u.2.2.1 15)) 85 (u.1 36)) 53 (u.2.2.1 16)) 86 (u.1 37)))
set_option maxHeartbeats 8000000 in
set_option maxRecDepth 100000 in
theorem cxx_city (l : Launch) (E : vE) (F : Nat) (a : Nat → Nat) (S : vS) (v1 : Int32) (r : Int32) (S2 : vS) (h : xx_city F S v1 = some (r, S2)) : CtI l yX11_city cX11_city 3 (some .int) 11 E [.ref (a 0), .int v1] (wf_X11 E a S) (wf_X11 E a S2) r := by
  unfold xx_city at h
  obtain ⟨u, hu, h2⟩ := mp_some h
  cases h2
  exact CtI.frame (ct_X11_city l E F (a 0) (a 1) (a 19) (a 37) (a 92) (a 94) (a 113) (a 117) (a 121) (a 124) (a 126) (a 130) (a 2) (a 7) (a 11) (a 13) (a 15) (a 17) (a 3) (a 5) (a 6) (a 4) (a 8) (a 9) (a 10) (a 12) (a 14) (a 16) (a 18) (a 93) (a 95) (a 96) (a 101) (a 105) (a 107) (a 109) (a 111) (a 97) (a 99) (a 100) (a 98) (a 102) (a 103) (a 104) (a 106) (a 108) (a 110) (a 112) (S.1 0) (S.1 1) (S.1 2) (S.1 3) (S.1 4) (S.1 5) (S.2.1 0) (S.2.1 1) (S.1 6) (S.1 7) (S.1 8) (S.1 9) (S.1 10) (S.1 11) (S.1 12) (S.2.2.1 0) (S.2.2.1 1) (S.2.2.1 2) (S.1 13) (S.2.2.2 0) (S.2.2.1 3) (S.2.2.1 4) (S.1 14) (S.2.2.1 5) (S.1 15) (S.2.2.1 6) (S.1 16) (S.2.2.1 7) (S.1 17) (S.2.2.1 8) (S.1 66) (S.1 67) (S.1 68) (S.1 69) (S.1 70) (S.1 71) (S.2.1 2) (S.1 72) (S.1 73) (S.2.2.1 45) (S.1 74) (S.1 75) (S.1 76) (S.1 77) (S.1 78) (S.1 79) (S.1 80) (S.1 81) (S.2.2.1 46) (S.2.2.1 47) (S.2.2.1 48) (S.1 82) (S.2.2.2 5) (S.2.2.1 49) (S.2.2.1 50) (S.1 83) (S.2.2.1 51) (S.1 84) (S.2.2.1 52) (S.1 85) (S.2.2.1 53) (S.1 86) (S.2.2.1 54) v1 u hu) [0, 1, 2, 3, 4, 5, 6, 7, 8, 9, 10, 11, 12, 13, 14, 15, 16, 17, 18, 92, 93, 94, 95, 96, 97, 98, 99, 100, 101, 102, 103, 104, 105, 106, 107, 108, 109, 110, 111, 112] rfl (by decide +kernel) rfl rfl
def xx_weeks (F : Nat) (S : vS) (v1 : Int32) : Option (Int32 × vS) := (X11_weeks F (S.1 2) (S.1 3) (S.1 4) (S.1 5) (S.1 10) (S.1 13) (S.2.2.2 0) (S.2.2.1 3) (S.2.2.1 4) (S.1 17) (S.2.2.1 8) (S.1 66) (S.1 67) (S.1 68) (S.1 69) (S.1 70) (S.1 71) (S.2.1 2) (S.1 72) (S.1 73) (S.2.2.1 45) (S.1 87) (S.1 88) (S.2.2.1 55) (S.2.2.1 56) v1).map fun u => ((u.1 0), (sA (sA (sI (sI (sI (sI (sJ (sI (sI (sI (sI (sI (sI (sA (sI (sI (sI (sI (sI (sI S 2 (u.1 1)) 3 (u.1 2)) 4 (u.1 3)) 5 (u.1 4)) 10 (u.1 5)) 17 (u.1 6)) 8 (u.2.2.1 0)) 66 (u.1 7)) 67 (u.1 8)) 68 (u.1 9)) 69 (u.1 10)) 70 (u.1 11)) 71 (u.1 12)) 2 (u.2.1 0)) 72 (u.1 13)) 73 (u.1 14)) 87 (u.1 15)) 88 (u.1 16)) 55 (u.2.2.1 1)) 56 (u.2.2.1 2)))
set_option maxHeartbeats 8000000 in
set_option maxRecDepth 100000 in
theorem cxx_weeks (l : Launch) (E : vE) (F : Nat) (a : Nat → Nat) (S : vS) (v1 : Int32) (r : Int32) (S2 : vS) (h : xx_weeks F S v1 = some (r, S2)) : CtI l yX11_weeks cX11_weeks 3 (some .int) 11 E [.ref (a 0), .int v1] (wf_X11 E a S) (wf_X11 E a S2) r := by
  unfold xx_weeks at h
  obtain ⟨u, hu, h2⟩ := mp_some h
  cases h2
  exact CtI.frame (ct_X11_weeks l E F (a 0) (a 1) (a 19) (a 37) (a 92) (a 94) (a 113) (a 117) (a 121) (a 124) (a 126) (a 130) (a 2) (a 7) (a 11) (a 13) (a 15) (a 17) (a 8) (a 9) (a 10) (a 18) (a 93) (a 114) (a 116) (a 115) (S.1 0) (S.1 1) (S.1 2) (S.1 3) (S.1 4) (S.1 5) (S.2.1 0) (S.2.1 1) (S.1 6) (S.1 7) (S.1 8) (S.1 9) (S.1 10) (S.1 13) (S.2.2.2 0) (S.2.2.1 3) (S.2.2.1 4) (S.1 17) (S.2.2.1 8) (S.1 66) (S.1 67) (S.1 68) (S.1 69) (S.1 70) (S.1 71) (S.2.1 2) (S.1 72) (S.1 73) (S.2.2.1 45) (S.1 87) (S.1 88) (S.2.2.1 55) (S.2.2.1 56) v1 u hu) [0, 1, 7, 8, 9, 10, 17, 18, 92, 93, 113, 114, 115, 116] rfl (by decide +kernel) rfl rfl
def xx_fault (F : Nat) (S : vS) (v1 : Int32) : Option (Int32 × vS) := (X11_fault (S.1 2) (S.1 3) (S.1 4) v1).map fun u => (u, S)
set_option maxHeartbeats 8000000 in
set_option maxRecDepth 100000 in
theorem cxx_fault (l : Launch) (E : vE) (F : Nat) (a : Nat → Nat) (S : vS) (v1 : Int32) (r : Int32) (S2 : vS) (h : xx_fault F S v1 = some (r, S2)) : CtI l yX11_fault cX11_fault 2 (some .int) 0 E [.ref (a 0), .int v1] (wf_X11 E a S) (wf_X11 E a S2) r := by
  unfold xx_fault at h
  obtain ⟨u, hu, h2⟩ := mp_some h
  cases h2
  exact CtI.frame (ct_X11_fault l E (a 0) (a 1) (a 19) (a 37) (a 92) (a 94) (a 113) (a 117) (a 121) (a 124) (a 126) (a 130) (S.1 0) (S.1 1) (S.1 2) (S.1 3) (S.1 4) (S.1 5) (S.2.1 0) (S.2.1 1) v1 u hu) [0] rfl (by decide +kernel) rfl rfl
def xx_told (F : Nat) (S : vS) (v1 : Int32) : Option (Int32 × vS) := (X11_told F (S.1 5) (S.1 6) (S.1 7) (S.1 8) (S.1 9) (S.1 11) (S.1 12) (S.1 14) (S.2.2.1 5) (S.1 15) (S.2.2.1 6) (S.1 16) v1).map fun u => (u.1, (sI S 5 u.2))
set_option maxHeartbeats 8000000 in
set_option maxRecDepth 100000 in
theorem cxx_told (l : Launch) (E : vE) (F : Nat) (a : Nat → Nat) (S : vS) (v1 : Int32) (r : Int32) (S2 : vS) (h : xx_told F S v1 = some (r, S2)) : CtI l yX11_told cX11_told 2 (some .int) 3 E [.ref (a 0), .int v1] (wf_X11 E a S) (wf_X11 E a S2) r := by
  unfold xx_told at h
  obtain ⟨u, hu, h2⟩ := mp_some h
  cases h2
  exact CtI.frame (ct_X11_told l E F (a 0) (a 1) (a 19) (a 37) (a 92) (a 94) (a 113) (a 117) (a 121) (a 124) (a 126) (a 130) (a 2) (a 7) (a 11) (a 13) (a 15) (a 17) (a 3) (a 5) (a 6) (a 4) (a 12) (a 14) (a 16) (S.1 0) (S.1 1) (S.1 2) (S.1 3) (S.1 4) (S.1 5) (S.2.1 0) (S.2.1 1) (S.1 6) (S.1 7) (S.1 8) (S.1 9) (S.1 10) (S.1 11) (S.1 12) (S.1 14) (S.2.2.1 5) (S.1 15) (S.2.2.1 6) (S.1 16) v1 u hu) [0, 1, 2, 3, 11, 12, 13, 14, 15] rfl (by decide +kernel) rfl rfl
def xx_extra (F : Nat) (S : vS) (v1 : Int32) (v2 : Int32) : Option (Int32 × vS) := (X11_extra (S.1 5) (S.1 14) (S.2.2.1 5) v1 v2).map fun u => (u.1, (sI S 5 u.2))
set_option maxHeartbeats 8000000 in
set_option maxRecDepth 100000 in
theorem cxx_extra (l : Launch) (E : vE) (F : Nat) (a : Nat → Nat) (S : vS) (v1 : Int32) (v2 : Int32) (r : Int32) (S2 : vS) (h : xx_extra F S v1 v2 = some (r, S2)) : CtI l yX11_extra cX11_extra 3 (some .int) 2 E [.ref (a 0), .int v1, .int v2] (wf_X11 E a S) (wf_X11 E a S2) r := by
  unfold xx_extra at h
  obtain ⟨u, hu, h2⟩ := mp_some h
  cases h2
  exact CtI.frame (ct_X11_extra l E (a 0) (a 1) (a 19) (a 37) (a 92) (a 94) (a 113) (a 117) (a 121) (a 124) (a 126) (a 130) (a 2) (a 7) (a 11) (a 13) (a 15) (a 17) (a 12) (S.1 0) (S.1 1) (S.1 2) (S.1 3) (S.1 4) (S.1 5) (S.2.1 0) (S.2.1 1) (S.1 6) (S.1 7) (S.1 8) (S.1 9) (S.1 10) (S.1 14) (S.2.2.1 5) v1 v2 u hu) [0, 1, 11, 12] rfl (by decide +kernel) rfl rfl
def xx_happening (F : Nat) (S : vS) (v1 : Int32) (v2 : Int32) : Option (Int32 × vS) := (X11_happening F (S.1 5) (S.1 14) (S.2.2.1 5) (S.1 15) (S.2.2.1 6) v1 v2).map fun u => (u.1, (sI S 5 u.2))
set_option maxHeartbeats 8000000 in
set_option maxRecDepth 100000 in
theorem cxx_happening (l : Launch) (E : vE) (F : Nat) (a : Nat → Nat) (S : vS) (v1 : Int32) (v2 : Int32) (r : Int32) (S2 : vS) (h : xx_happening F S v1 v2 = some (r, S2)) : CtI l yX11_happening cX11_happening 3 (some .int) 2 E [.ref (a 0), .int v1, .int v2] (wf_X11 E a S) (wf_X11 E a S2) r := by
  unfold xx_happening at h
  obtain ⟨u, hu, h2⟩ := mp_some h
  cases h2
  exact CtI.frame (ct_X11_happening l E F (a 0) (a 1) (a 19) (a 37) (a 92) (a 94) (a 113) (a 117) (a 121) (a 124) (a 126) (a 130) (a 2) (a 7) (a 11) (a 13) (a 15) (a 17) (a 12) (a 14) (S.1 0) (S.1 1) (S.1 2) (S.1 3) (S.1 4) (S.1 5) (S.2.1 0) (S.2.1 1) (S.1 6) (S.1 7) (S.1 8) (S.1 9) (S.1 10) (S.1 14) (S.2.2.1 5) (S.1 15) (S.2.2.1 6) v1 v2 u hu) [0, 1, 11, 12, 13, 14] rfl (by decide +kernel) rfl rfl
def xx_watcher (F : Nat) (S : vS) (v1 : Int32) (v2 : Int32) : Option (Int32 × vS) := (X11_watcher (S.1 5) (S.1 16) (S.2.2.1 7) v1 v2).map fun u => (u.1, (sI S 5 u.2))
set_option maxHeartbeats 8000000 in
set_option maxRecDepth 100000 in
theorem cxx_watcher (l : Launch) (E : vE) (F : Nat) (a : Nat → Nat) (S : vS) (v1 : Int32) (v2 : Int32) (r : Int32) (S2 : vS) (h : xx_watcher F S v1 v2 = some (r, S2)) : CtI l yX11_watcher cX11_watcher 3 (some .int) 2 E [.ref (a 0), .int v1, .int v2] (wf_X11 E a S) (wf_X11 E a S2) r := by
  unfold xx_watcher at h
  obtain ⟨u, hu, h2⟩ := mp_some h
  cases h2
  exact CtI.frame (ct_X11_watcher l E (a 0) (a 1) (a 19) (a 37) (a 92) (a 94) (a 113) (a 117) (a 121) (a 124) (a 126) (a 130) (a 2) (a 7) (a 11) (a 13) (a 15) (a 17) (a 16) (S.1 0) (S.1 1) (S.1 2) (S.1 3) (S.1 4) (S.1 5) (S.2.1 0) (S.2.1 1) (S.1 6) (S.1 7) (S.1 8) (S.1 9) (S.1 10) (S.1 16) (S.2.2.1 7) v1 v2 u hu) [0, 1, 15, 16] rfl (by decide +kernel) rfl rfl
def xx_standing (F : Nat) (S : vS) (v1 : Int32) : Option (Int32 × vS) := (X11_standing F (S.1 5) (S.1 11) (S.1 14) (S.2.2.1 5) v1).map fun u => (u.1, (sI S 5 u.2))
set_option maxHeartbeats 8000000 in
set_option maxRecDepth 100000 in
theorem cxx_standing (l : Launch) (E : vE) (F : Nat) (a : Nat → Nat) (S : vS) (v1 : Int32) (r : Int32) (S2 : vS) (h : xx_standing F S v1 = some (r, S2)) : CtI l yX11_standing cX11_standing 2 (some .int) 2 E [.ref (a 0), .int v1] (wf_X11 E a S) (wf_X11 E a S2) r := by
  unfold xx_standing at h
  obtain ⟨u, hu, h2⟩ := mp_some h
  cases h2
  exact CtI.frame (ct_X11_standing l E F (a 0) (a 1) (a 19) (a 37) (a 92) (a 94) (a 113) (a 117) (a 121) (a 124) (a 126) (a 130) (a 2) (a 7) (a 11) (a 13) (a 15) (a 17) (a 3) (a 5) (a 6) (a 12) (S.1 0) (S.1 1) (S.1 2) (S.1 3) (S.1 4) (S.1 5) (S.2.1 0) (S.2.1 1) (S.1 6) (S.1 7) (S.1 8) (S.1 9) (S.1 10) (S.1 11) (S.1 14) (S.2.2.1 5) v1 u hu) [0, 1, 2, 11, 12] rfl (by decide +kernel) rfl rfl
def xx_road (F : Nat) (S : vS) (v1 : Int32) (v2 : Int32) : Option (Int32 × vS) := (X11_road (S.1 5) (S.1 11) (S.2.2.1 1) v1 v2).map fun u => (u.1, (sI S 5 u.2))
set_option maxHeartbeats 8000000 in
set_option maxRecDepth 100000 in
theorem cxx_road (l : Launch) (E : vE) (F : Nat) (a : Nat → Nat) (S : vS) (v1 : Int32) (v2 : Int32) (r : Int32) (S2 : vS) (h : xx_road F S v1 v2 = some (r, S2)) : CtI l yX11_road cX11_road 4 (some .int) 2 E [.ref (a 0), .int v1, .int v2] (wf_X11 E a S) (wf_X11 E a S2) r := by
  unfold xx_road at h
  obtain ⟨u, hu, h2⟩ := mp_some h
  cases h2
  exact CtI.frame (ct_X11_road l E (a 0) (a 1) (a 19) (a 37) (a 92) (a 94) (a 113) (a 117) (a 121) (a 124) (a 126) (a 130) (a 2) (a 7) (a 11) (a 13) (a 15) (a 17) (a 3) (a 5) (a 6) (S.1 0) (S.1 1) (S.1 2) (S.1 3) (S.1 4) (S.1 5) (S.2.1 0) (S.2.1 1) (S.1 6) (S.1 7) (S.1 8) (S.1 9) (S.1 10) (S.1 11) (S.2.2.1 1) v1 v2 u hu) [0, 1, 2, 5] rfl (by decide +kernel) rfl rfl
def xx_hour (F : Nat) (S : vS) (v1 : Int32) : Option (Int32 × vS) := (X11_hour F (S.1 5) (S.1 6) (S.1 7) (S.1 9) (S.1 11) (S.2.2.1 1) (S.2.2.1 2) (S.1 14) (S.2.2.1 5) (S.1 15) (S.2.2.1 6) (S.1 16) (S.2.2.1 7) v1).map fun u => (u.1, (sA (sA (sA (sI (sI S 5 u.2.1) 9 u.2.2.1) 5 u.2.2.2.1) 6 u.2.2.2.2.1) 7 u.2.2.2.2.2))
set_option maxHeartbeats 8000000 in
set_option maxRecDepth 100000 in
theorem cxx_hour (l : Launch) (E : vE) (F : Nat) (a : Nat → Nat) (S : vS) (v1 : Int32) (r : Int32) (S2 : vS) (h : xx_hour F S v1 = some (r, S2)) : CtI l yX11_hour cX11_hour 3 (some .int) 5 E [.ref (a 0), .int v1] (wf_X11 E a S) (wf_X11 E a S2) r := by
  unfold xx_hour at h
  obtain ⟨u, hu, h2⟩ := mp_some h
  cases h2
  exact CtI.frame (ct_X11_hour l E F (a 0) (a 1) (a 19) (a 37) (a 92) (a 94) (a 113) (a 117) (a 121) (a 124) (a 126) (a 130) (a 2) (a 7) (a 11) (a 13) (a 15) (a 17) (a 3) (a 5) (a 6) (a 12) (a 14) (a 16) (S.1 0) (S.1 1) (S.1 2) (S.1 3) (S.1 4) (S.1 5) (S.2.1 0) (S.2.1 1) (S.1 6) (S.1 7) (S.1 8) (S.1 9) (S.1 10) (S.1 11) (S.2.2.1 1) (S.2.2.1 2) (S.1 14) (S.2.2.1 5) (S.1 15) (S.2.2.1 6) (S.1 16) (S.2.2.1 7) v1 u hu) [0, 1, 2, 5, 6, 11, 12, 13, 14, 15, 16] rfl (by decide +kernel) rfl rfl
def xx_order (F : Nat) (S : vS) (v1 : Int32) (v2 : Int32) (v3 : Int32) : Option (Int32 × vS) := (X11_order (S.1 5) (S.1 14) (S.2.2.1 5) (S.1 15) v1 v2 v3).map fun u => (u.1, (sA (sI S 5 u.2.1) 5 u.2.2))
set_option maxHeartbeats 8000000 in
set_option maxRecDepth 100000 in
theorem cxx_order (l : Launch) (E : vE) (F : Nat) (a : Nat → Nat) (S : vS) (v1 : Int32) (v2 : Int32) (v3 : Int32) (r : Int32) (S2 : vS) (h : xx_order F S v1 v2 v3 = some (r, S2)) : CtI l yX11_order cX11_order 4 (some .boolean) 2 E [.ref (a 0), .int v1, .int v2, .int v3] (wf_X11 E a S) (wf_X11 E a S2) r := by
  unfold xx_order at h
  obtain ⟨u, hu, h2⟩ := mp_some h
  cases h2
  exact CtI.frame (ct_X11_order l E (a 0) (a 1) (a 19) (a 37) (a 92) (a 94) (a 113) (a 117) (a 121) (a 124) (a 126) (a 130) (a 2) (a 7) (a 11) (a 13) (a 15) (a 17) (a 12) (a 14) (S.1 0) (S.1 1) (S.1 2) (S.1 3) (S.1 4) (S.1 5) (S.2.1 0) (S.2.1 1) (S.1 6) (S.1 7) (S.1 8) (S.1 9) (S.1 10) (S.1 14) (S.2.2.1 5) (S.1 15) v1 v2 v3 u hu) [0, 1, 11, 12, 13] rfl (by decide +kernel) rfl rfl
