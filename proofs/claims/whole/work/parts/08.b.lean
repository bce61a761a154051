def xm_status (F : Nat) (S : vS) : Option (Int32 × vS) := (X12_status (S.1 0)).map fun u => (u, S)
set_option maxHeartbeats 8000000 in
set_option maxRecDepth 100000 in
theorem cxm_status (l : Launch) (E : vE) (F : Nat) (a : Nat → Nat) (S : vS) (r : Int32) (S2 : vS) (h : xm_status F S = some (r, S2)) : CtI l yX12_status cX12_status 1 (some .int) 0 E [.ref (a 0)] (wf_X12 E a S) (wf_X12 E a S2) r := by
  unfold xm_status at h
  obtain ⟨u, hu, h2⟩ := mp_some h
  have e1 : _ = r := congrArg Prod.fst h2
  have e2 : _ = S2 := congrArg Prod.snd h2
  rw [← e1, ← e2]
  exact CtI.frame (n1 := 18) (ct_X12_status l E (a 0) (a 1) (a 2) (a 3) (a 4) (a 5) (a 6) (a 7) (a 8) (a 9) (a 10) (a 11) (a 12) (a 13) (a 14) (a 15) (a 16) (a 17) (S.1 0) (S.2.1 0) (S.2.1 1) (S.1 1) (S.1 2) (S.1 3) (S.1 4) (S.1 5) (S.1 6) (S.1 7) (S.1 8) (S.1 9) (S.1 10) (S.1 11) (S.1 12) (S.1 13) (S.1 14) (S.1 15) (S.1 16) (S.1 17) (S.1 18) (S.1 19) u hu) [0] rfl (by decide +kernel) rfl [some 0, none, none, none, none, none, none, none, none, none, none, none, none, none, none, none, none, none] rfl (by decide +kernel) rfl
def xm_top (F : Nat) (S : vS) : Option (Int64 × vS) := (X12_top (S.2.1 0)).map fun u => (u, S)
set_option maxHeartbeats 8000000 in
set_option maxRecDepth 100000 in
theorem cxm_top (l : Launch) (E : vE) (F : Nat) (a : Nat → Nat) (S : vS) (r : Int64) (S2 : vS) (h : xm_top F S = some (r, S2)) : CtL l yX12_top cX12_top 1 (some .long) 0 E [.ref (a 0)] (wf_X12 E a S) (wf_X12 E a S2) r := by
  unfold xm_top at h
  obtain ⟨u, hu, h2⟩ := mp_some h
  have e1 : _ = r := congrArg Prod.fst h2
  have e2 : _ = S2 := congrArg Prod.snd h2
  rw [← e1, ← e2]
  exact CtL.frame (n1 := 18) (ct_X12_top l E (a 0) (a 1) (a 2) (a 3) (a 4) (a 5) (a 6) (a 7) (a 8) (a 9) (a 10) (a 11) (a 12) (a 13) (a 14) (a 15) (a 16) (a 17) (S.1 0) (S.2.1 0) (S.2.1 1) (S.1 1) (S.1 2) (S.1 3) (S.1 4) (S.1 5) (S.1 6) (S.1 7) (S.1 8) (S.1 9) (S.1 10) (S.1 11) (S.1 12) (S.1 13) (S.1 14) (S.1 15) (S.1 16) (S.1 17) (S.1 18) (S.1 19) u hu) [0] rfl (by decide +kernel) rfl [some 0, none, none, none, none, none, none, none, none, none, none, none, none, none, none, none, none, none] rfl (by decide +kernel) rfl
def xm_bottom (F : Nat) (S : vS) : Option (Int64 × vS) := (X12_bottom (S.2.1 1)).map fun u => (u, S)
set_option maxHeartbeats 8000000 in
set_option maxRecDepth 100000 in
theorem cxm_bottom (l : Launch) (E : vE) (F : Nat) (a : Nat → Nat) (S : vS) (r : Int64) (S2 : vS) (h : xm_bottom F S = some (r, S2)) : CtL l yX12_bottom cX12_bottom 1 (some .long) 0 E [.ref (a 0)] (wf_X12 E a S) (wf_X12 E a S2) r := by
  unfold xm_bottom at h
  obtain ⟨u, hu, h2⟩ := mp_some h
  have e1 : _ = r := congrArg Prod.fst h2
  have e2 : _ = S2 := congrArg Prod.snd h2
  rw [← e1, ← e2]
  exact CtL.frame (n1 := 18) (ct_X12_bottom l E (a 0) (a 1) (a 2) (a 3) (a 4) (a 5) (a 6) (a 7) (a 8) (a 9) (a 10) (a 11) (a 12) (a 13) (a 14) (a 15) (a 16) (a 17) (S.1 0) (S.2.1 0) (S.2.1 1) (S.1 1) (S.1 2) (S.1 3) (S.1 4) (S.1 5) (S.1 6) (S.1 7) (S.1 8) (S.1 9) (S.1 10) (S.1 11) (S.1 12) (S.1 13) (S.1 14) (S.1 15) (S.1 16) (S.1 17) (S.1 18) (S.1 19) u hu) [0] rfl (by decide +kernel) rfl [some 0, none, none, none, none, none, none, none, none, none, none, none, none, none, none, none, none, none] rfl (by decide +kernel) rfl
def xm_tray (F : Nat) (S : vS) (v1 : Int32) (v2 : Int32) (v3 : Int32) : Option (Int32 × vS) := (X12_tray F (S.1 0) (S.2.2.1 1) (S.2.2.1 2) (S.2.2.2 1) v1 v2 v3).map fun u => (u.1, (sB (sA (sA (sI S 0 u.2.1) 1 u.2.2.1) 2 u.2.2.2.1) 1 u.2.2.2.2))
set_option maxHeartbeats 8000000 in
set_option maxRecDepth 100000 in
theorem cxm_tray (l : Launch) (E : vE) (F : Nat) (a : Nat → Nat) (S : vS) (v1 : Int32) (v2 : Int32) (v3 : Int32) (r : Int32) (S2 : vS) (h : xm_tray F S v1 v2 v3 = some (r, S2)) : CtI l yX12_tray cX12_tray 5 (some .boolean) 1 E [.ref (a 0), .int v1, .int v2, .int v3] (wf_X12 E a S) (wf_X12 E a S2) r := by
  unfold xm_tray at h
  obtain ⟨u, hu, h2⟩ := mp_some h
  have e1 : _ = r := congrArg Prod.fst h2
  have e2 : _ = S2 := congrArg Prod.snd h2
  rw [← e1, ← e2]
  exact CtI.frame (n1 := 18) (ct_X12_tray l E F (a 0) (a 1) (a 2) (a 3) (a 4) (a 5) (a 6) (a 7) (a 8) (a 9) (a 10) (a 11) (a 12) (a 13) (a 14) (a 15) (a 16) (a 17) (S.1 0) (S.2.1 0) (S.2.1 1) (S.1 1) (S.1 2) (S.1 3) (S.1 4) (S.1 5) (S.1 6) (S.1 7) (S.1 8) (S.1 9) (S.1 10) (S.1 11) (S.1 12) (S.1 13) (S.1 14) (S.1 15) (S.1 16) (S.1 17) (S.1 18) (S.1 19) (S.2.2.1 1) (S.2.2.1 2) (S.2.2.2 1) v1 v2 v3 u hu) [0, 3, 4, 5] rfl (by decide +kernel) rfl [some 0, none, none, some 1, some 2, some 3, none, none, none, none, none, none, none, none, none, none, none, none] rfl (by decide +kernel) rfl
def xm_write (F : Nat) (S : vS) (v1 : Int32) (v2 : Int32) (v3 : Int64) : Option (Int32 × vS) := (X12_write (S.1 0) (S.2.2.1 1) (S.2.2.1 2) (S.2.2.2 1) v1 v2 v3).map fun u => (u.1, (sB (sI S 0 u.2.1) 1 u.2.2))
set_option maxHeartbeats 8000000 in
set_option maxRecDepth 100000 in
theorem cxm_write (l : Launch) (E : vE) (F : Nat) (a : Nat → Nat) (S : vS) (v1 : Int32) (v2 : Int32) (v3 : Int64) (r : Int32) (S2 : vS) (h : xm_write F S v1 v2 v3 = some (r, S2)) : CtI l yX12_write cX12_write 6 (some .boolean) 2 E [.ref (a 0), .int v1, .int v2, .long v3] (wf_X12 E a S) (wf_X12 E a S2) r := by
  unfold xm_write at h
  obtain ⟨u, hu, h2⟩ := mp_some h
  have e1 : _ = r := congrArg Prod.fst h2
  have e2 : _ = S2 := congrArg Prod.snd h2
  rw [← e1, ← e2]
  exact CtI.frame (n1 := 18) (ct_X12_write l E (a 0) (a 1) (a 2) (a 3) (a 4) (a 5) (a 6) (a 7) (a 8) (a 9) (a 10) (a 11) (a 12) (a 13) (a 14) (a 15) (a 16) (a 17) (S.1 0) (S.2.1 0) (S.2.1 1) (S.1 1) (S.1 2) (S.1 3) (S.1 4) (S.1 5) (S.1 6) (S.1 7) (S.1 8) (S.1 9) (S.1 10) (S.1 11) (S.1 12) (S.1 13) (S.1 14) (S.1 15) (S.1 16) (S.1 17) (S.1 18) (S.1 19) (S.2.2.1 1) (S.2.2.1 2) (S.2.2.2 1) v1 v2 v3 u hu) [0, 3, 4, 5] rfl (by decide +kernel) rfl [some 0, none, none, some 1, some 2, some 3, none, none, none, none, none, none, none, none, none, none, none, none] rfl (by decide +kernel) rfl
def xm_read (F : Nat) (S : vS) (v1 : Int32) (v2 : Int32) : Option (Int64 × vS) := (X12_read (S.1 0) (S.2.2.1 2) (S.2.2.2 1) v1 v2).map fun u => (u.1, (sI S 0 u.2))
set_option maxHeartbeats 8000000 in
set_option maxRecDepth 100000 in
theorem cxm_read (l : Launch) (E : vE) (F : Nat) (a : Nat → Nat) (S : vS) (v1 : Int32) (v2 : Int32) (r : Int64) (S2 : vS) (h : xm_read F S v1 v2 = some (r, S2)) : CtL l yX12_read cX12_read 3 (some .long) 2 E [.ref (a 0), .int v1, .int v2] (wf_X12 E a S) (wf_X12 E a S2) r := by
  unfold xm_read at h
  obtain ⟨u, hu, h2⟩ := mp_some h
  have e1 : _ = r := congrArg Prod.fst h2
  have e2 : _ = S2 := congrArg Prod.snd h2
  rw [← e1, ← e2]
  exact CtL.frame (n1 := 18) (ct_X12_read l E (a 0) (a 1) (a 2) (a 3) (a 4) (a 5) (a 6) (a 7) (a 8) (a 9) (a 10) (a 11) (a 12) (a 13) (a 14) (a 15) (a 16) (a 17) (S.1 0) (S.2.1 0) (S.2.1 1) (S.1 1) (S.1 2) (S.1 3) (S.1 4) (S.1 5) (S.1 6) (S.1 7) (S.1 8) (S.1 9) (S.1 10) (S.1 11) (S.1 12) (S.1 13) (S.1 14) (S.1 15) (S.1 16) (S.1 17) (S.1 18) (S.1 19) (S.2.2.1 2) (S.2.2.2 1) v1 v2 u hu) [0, 4, 5] rfl (by decide +kernel) rfl [some 0, none, none, none, some 1, some 2, none, none, none, none, none, none, none, none, none, none, none, none] rfl (by decide +kernel) rfl
def xm_pour (F : Nat) (S : vS) (v1 : Int32) (v2 : Int32) (v3 : Int32) (v4 : Int32) (v5 : Int32) : Option (Int32 × vS) := (X12_pour F (S.1 0) (S.2.2.1 1) (S.2.2.1 2) (S.2.2.2 1) v1 v2 v3 v4 v5).map fun u => (u.1, (sB (sI S 0 u.2.1) 1 u.2.2))
set_option maxHeartbeats 8000000 in
set_option maxRecDepth 100000 in
theorem cxm_pour (l : Launch) (E : vE) (F : Nat) (a : Nat → Nat) (S : vS) (v1 : Int32) (v2 : Int32) (v3 : Int32) (v4 : Int32) (v5 : Int32) (r : Int32) (S2 : vS) (h : xm_pour F S v1 v2 v3 v4 v5 = some (r, S2)) : CtI l yX12_pour cX12_pour 8 (some .boolean) 1 E [.ref (a 0), .int v1, .int v2, .int v3, .int v4, .int v5] (wf_X12 E a S) (wf_X12 E a S2) r := by
  unfold xm_pour at h
  obtain ⟨u, hu, h2⟩ := mp_some h
  have e1 : _ = r := congrArg Prod.fst h2
  have e2 : _ = S2 := congrArg Prod.snd h2
  rw [← e1, ← e2]
  exact CtI.frame (n1 := 18) (ct_X12_pour l E F (a 0) (a 1) (a 2) (a 3) (a 4) (a 5) (a 6) (a 7) (a 8) (a 9) (a 10) (a 11) (a 12) (a 13) (a 14) (a 15) (a 16) (a 17) (S.1 0) (S.2.1 0) (S.2.1 1) (S.1 1) (S.1 2) (S.1 3) (S.1 4) (S.1 5) (S.1 6) (S.1 7) (S.1 8) (S.1 9) (S.1 10) (S.1 11) (S.1 12) (S.1 13) (S.1 14) (S.1 15) (S.1 16) (S.1 17) (S.1 18) (S.1 19) (S.2.2.1 1) (S.2.2.1 2) (S.2.2.2 1) v1 v2 v3 v4 v5 u hu) [0, 3, 4, 5] rfl (by decide +kernel) rfl [some 0, none, none, some 1, some 2, some 3, none, none, none, none, none, none, none, none, none, none, none, none] rfl (by decide +kernel) rfl
def xm_feed (F : Nat) (S : vS) (v1 : Int32) (v2 : Int32) (v3 : Int32) (v4 : Int32) (v5 : Int32) : Option (Int32 × vS) := (X12_feed F (S.1 1) (S.2.2.1 3) v1 v2 v3 v4 v5).map fun u => (u.1, (sA (sI S 1 u.2.1) 3 u.2.2))
set_option maxHeartbeats 8000000 in
set_option maxRecDepth 100000 in
theorem cxm_feed (l : Launch) (E : vE) (F : Nat) (a : Nat → Nat) (S : vS) (v1 : Int32) (v2 : Int32) (v3 : Int32) (v4 : Int32) (v5 : Int32) (r : Int32) (S2 : vS) (h : xm_feed F S v1 v2 v3 v4 v5 = some (r, S2)) : CtI l yX12_feed cX12_feed 6 (some .int) 1 E [.ref (a 0), .int v1, .int v2, .int v3, .int v4, .int v5] (wf_X12 E a S) (wf_X12 E a S2) r := by
  unfold xm_feed at h
  obtain ⟨u, hu, h2⟩ := mp_some h
  have e1 : _ = r := congrArg Prod.fst h2
  have e2 : _ = S2 := congrArg Prod.snd h2
  rw [← e1, ← e2]
  exact CtI.frame (n1 := 18) (ct_X12_feed l E F (a 0) (a 1) (a 2) (a 3) (a 4) (a 5) (a 6) (a 7) (a 8) (a 9) (a 10) (a 11) (a 12) (a 13) (a 14) (a 15) (a 16) (a 17) (S.1 0) (S.2.1 0) (S.2.1 1) (S.1 1) (S.1 2) (S.1 3) (S.1 4) (S.1 5) (S.1 6) (S.1 7) (S.1 8) (S.1 9) (S.1 10) (S.1 11) (S.1 12) (S.1 13) (S.1 14) (S.1 15) (S.1 16) (S.1 17) (S.1 18) (S.1 19) (S.2.2.1 3) v1 v2 v3 v4 v5 u hu) [0, 6] rfl (by decide +kernel) rfl [some 0, none, none, none, none, none, some 1, none, none, none, none, none, none, none, none, none, none, none] rfl (by decide +kernel) rfl
def xm_city (F : Nat) (S : vS) (v1 : Int32) : Option (Int32 × vS) := (X12_city F (S.1 0) (S.1 1) (S.1 2) (S.1 3) (S.1 4) (S.1 5) (S.1 6) (S.1 7) (S.1 8) (S.1 9) (S.1 10) (S.1 11) (S.2.2.1 0) (S.2.2.2 0) (S.2.2.1 3) (S.2.2.1 4) v1).map fun u => ((u.1 0), (sA (sB (sA (sI (sI (sI (sI (sI (sI (sI (sI (sI (sI (sI (sI S 0 (u.1 1)) 1 (u.1 2)) 2 (u.1 3)) 3 (u.1 4)) 4 (u.1 5)) 5 (u.1 6)) 6 (u.1 7)) 7 (u.1 8)) 8 (u.1 9)) 9 (u.1 10)) 10 (u.1 11)) 11 (u.1 12)) 0 (u.2.2.1 0)) 0 (u.2.2.2 0)) 4 (u.2.2.1 1)))
set_option maxHeartbeats 8000000 in
set_option maxRecDepth 100000 in
theorem cxm_city (l : Launch) (E : vE) (F : Nat) (a : Nat → Nat) (S : vS) (v1 : Int32) (r : Int32) (S2 : vS) (h : xm_city F S v1 = some (r, S2)) : CtI l yX12_city cX12_city 4 (some .int) 10 E [.ref (a 0), .int v1] (wf_X12 E a S) (wf_X12 E a S2) r := by
  unfold xm_city at h
  obtain ⟨u, hu, h2⟩ := mp_some h
  have e1 : _ = r := congrArg Prod.fst h2
  have e2 : _ = S2 := congrArg Prod.snd h2
  rw [← e1, ← e2]
  exact CtI.frame (n1 := 18) (ct_X12_city l E F (a 0) (a 1) (a 2) (a 3) (a 4) (a 5) (a 6) (a 7) (a 8) (a 9) (a 10) (a 11) (a 12) (a 13) (a 14) (a 15) (a 16) (a 17) (S.1 0) (S.2.1 0) (S.2.1 1) (S.1 1) (S.1 2) (S.1 3) (S.1 4) (S.1 5) (S.1 6) (S.1 7) (S.1 8) (S.1 9) (S.1 10) (S.1 11) (S.1 12) (S.1 13) (S.1 14) (S.1 15) (S.1 16) (S.1 17) (S.1 18) (S.1 19) (S.2.2.1 0) (S.2.2.2 0) (S.2.2.1 3) (S.2.2.1 4) v1 u hu) [0, 1, 2, 6, 7] rfl (by decide +kernel) rfl [some 0, some 1, some 2, none, none, none, some 3, some 4, none, none, none, none, none, none, none, none, none, none] rfl (by decide +kernel) rfl
def xm_weeks (F : Nat) (S : vS) (v1 : Int32) : Option (Int32 × vS) := (X12_weeks F (S.1 0) (S.1 1) (S.1 2) (S.1 3) (S.1 4) (S.1 5) (S.1 6) (S.1 7) (S.1 8) (S.1 9) (S.1 10) (S.1 12) (S.1 13) (S.2.2.1 0) (S.2.2.2 0) (S.2.2.1 3) (S.2.2.1 4) (S.2.2.1 5) v1).map fun u => ((u.1 0), (sA (sA (sA (sI (sI (sI (sI (sI (sI (sI (sI (sI (sI (sI (sI (sI S 0 (u.1 1)) 1 (u.1 2)) 2 (u.1 3)) 3 (u.1 4)) 4 (u.1 5)) 5 (u.1 6)) 6 (u.1 7)) 7 (u.1 8)) 8 (u.1 9)) 9 (u.1 10)) 10 (u.1 11)) 12 (u.1 12)) 13 (u.1 13)) 0 (u.2.2.1 0)) 4 (u.2.2.1 1)) 5 (u.2.2.1 2)))
set_option maxHeartbeats 8000000 in
set_option maxRecDepth 100000 in
theorem cxm_weeks (l : Launch) (E : vE) (F : Nat) (a : Nat → Nat) (S : vS) (v1 : Int32) (r : Int32) (S2 : vS) (h : xm_weeks F S v1 = some (r, S2)) : CtI l yX12_weeks cX12_weeks 4 (some .int) 11 E [.ref (a 0), .int v1] (wf_X12 E a S) (wf_X12 E a S2) r := by
  unfold xm_weeks at h
  obtain ⟨u, hu, h2⟩ := mp_some h
  have e1 : _ = r := congrArg Prod.fst h2
  have e2 : _ = S2 := congrArg Prod.snd h2
  rw [← e1, ← e2]
  exact CtI.frame (n1 := 18) (ct_X12_weeks l E F (a 0) (a 1) (a 2) (a 3) (a 4) (a 5) (a 6) (a 7) (a 8) (a 9) (a 10) (a 11) (a 12) (a 13) (a 14) (a 15) (a 16) (a 17) (S.1 0) (S.2.1 0) (S.2.1 1) (S.1 1) (S.1 2) (S.1 3) (S.1 4) (S.1 5) (S.1 6) (S.1 7) (S.1 8) (S.1 9) (S.1 10) (S.1 11) (S.1 12) (S.1 13) (S.1 14) (S.1 15) (S.1 16) (S.1 17) (S.1 18) (S.1 19) (S.2.2.1 0) (S.2.2.2 0) (S.2.2.1 3) (S.2.2.1 4) (S.2.2.1 5) v1 u hu) [0, 1, 2, 6, 7, 8] rfl (by decide +kernel) rfl [some 0, some 1, some 2, none, none, none, some 3, some 4, some 5, none, none, none, none, none, none, none, none, none] rfl (by decide +kernel) rfl
def xm_fault (F : Nat) (S : vS) (v1 : Int32) : Option (Int32 × vS) := (X12_fault (S.1 7) (S.1 8) v1).map fun u => (u, S)
set_option maxHeartbeats 8000000 in
set_option maxRecDepth 100000 in
theorem cxm_fault (l : Launch) (E : vE) (F : Nat) (a : Nat → Nat) (S : vS) (v1 : Int32) (r : Int32) (S2 : vS) (h : xm_fault F S v1 = some (r, S2)) : CtI l yX12_fault cX12_fault 2 (some .int) 0 E [.ref (a 0), .int v1] (wf_X12 E a S) (wf_X12 E a S2) r := by
  unfold xm_fault at h
  obtain ⟨u, hu, h2⟩ := mp_some h
  have e1 : _ = r := congrArg Prod.fst h2
  have e2 : _ = S2 := congrArg Prod.snd h2
  rw [← e1, ← e2]
  exact CtI.frame (n1 := 18) (ct_X12_fault l E (a 0) (a 1) (a 2) (a 3) (a 4) (a 5) (a 6) (a 7) (a 8) (a 9) (a 10) (a 11) (a 12) (a 13) (a 14) (a 15) (a 16) (a 17) (S.1 0) (S.2.1 0) (S.2.1 1) (S.1 1) (S.1 2) (S.1 3) (S.1 4) (S.1 5) (S.1 6) (S.1 7) (S.1 8) (S.1 9) (S.1 10) (S.1 11) (S.1 12) (S.1 13) (S.1 14) (S.1 15) (S.1 16) (S.1 17) (S.1 18) (S.1 19) v1 u hu) [0] rfl (by decide +kernel) rfl [some 0, none, none, none, none, none, none, none, none, none, none, none, none, none, none, none, none, none] rfl (by decide +kernel) rfl
def xm_told (F : Nat) (S : vS) (v1 : Int32) : Option (Int32 × vS) := (X12_told F (S.1 0) (S.2.2.1 0) v1).map fun u => (u.1, (sI S 0 u.2))
set_option maxHeartbeats 8000000 in
set_option maxRecDepth 100000 in
theorem cxm_told (l : Launch) (E : vE) (F : Nat) (a : Nat → Nat) (S : vS) (v1 : Int32) (r : Int32) (S2 : vS) (h : xm_told F S v1 = some (r, S2)) : CtI l yX12_told cX12_told 2 (some .int) 4 E [.ref (a 0), .int v1] (wf_X12 E a S) (wf_X12 E a S2) r := by
  unfold xm_told at h
  obtain ⟨u, hu, h2⟩ := mp_some h
  have e1 : _ = r := congrArg Prod.fst h2
  have e2 : _ = S2 := congrArg Prod.snd h2
  rw [← e1, ← e2]
  exact CtI.frame (n1 := 18) (ct_X12_told l E F (a 0) (a 1) (a 2) (a 3) (a 4) (a 5) (a 6) (a 7) (a 8) (a 9) (a 10) (a 11) (a 12) (a 13) (a 14) (a 15) (a 16) (a 17) (S.1 0) (S.2.1 0) (S.2.1 1) (S.1 1) (S.1 2) (S.1 3) (S.1 4) (S.1 5) (S.1 6) (S.1 7) (S.1 8) (S.1 9) (S.1 10) (S.1 11) (S.1 12) (S.1 13) (S.1 14) (S.1 15) (S.1 16) (S.1 17) (S.1 18) (S.1 19) (S.2.2.1 0) v1 u hu) [0, 1] rfl (by decide +kernel) rfl [some 0, some 1, none, none, none, none, none, none, none, none, none, none, none, none, none, none, none, none] rfl (by decide +kernel) rfl
def xm_extra (F : Nat) (S : vS) (v1 : Int32) (v2 : Int32) : Option (Int32 × vS) := (X12_extra (S.1 0) (S.2.2.1 0) v1 v2).map fun u => (u.1, (sI S 0 u.2))
set_option maxHeartbeats 8000000 in
set_option maxRecDepth 100000 in
theorem cxm_extra (l : Launch) (E : vE) (F : Nat) (a : Nat → Nat) (S : vS) (v1 : Int32) (v2 : Int32) (r : Int32) (S2 : vS) (h : xm_extra F S v1 v2 = some (r, S2)) : CtI l yX12_extra cX12_extra 3 (some .int) 2 E [.ref (a 0), .int v1, .int v2] (wf_X12 E a S) (wf_X12 E a S2) r := by
  unfold xm_extra at h
  obtain ⟨u, hu, h2⟩ := mp_some h
  have e1 : _ = r := congrArg Prod.fst h2
  have e2 : _ = S2 := congrArg Prod.snd h2
  rw [← e1, ← e2]
  exact CtI.frame (n1 := 18) (ct_X12_extra l E (a 0) (a 1) (a 2) (a 3) (a 4) (a 5) (a 6) (a 7) (a 8) (a 9) (a 10) (a 11) (a 12) (a 13) (a 14) (a 15) (a 16) (a 17) (S.1 0) (S.2.1 0) (S.2.1 1) (S.1 1) (S.1 2) (S.1 3) (S.1 4) (S.1 5) (S.1 6) (S.1 7) (S.1 8) (S.1 9) (S.1 10) (S.1 11) (S.1 12) (S.1 13) (S.1 14) (S.1 15) (S.1 16) (S.1 17) (S.1 18) (S.1 19) (S.2.2.1 0) v1 v2 u hu) [0, 1] rfl (by decide +kernel) rfl [some 0, some 1, none, none, none, none, none, none, none, none, none, none, none, none, none, none, none, none] rfl (by decide +kernel) rfl
def xm_happening (F : Nat) (S : vS) (v1 : Int32) (v2 : Int32) : Option (Int32 × vS) := (X12_happening F (S.1 0) (S.2.2.1 0) v1 v2).map fun u => (u.1, (sI S 0 u.2))
set_option maxHeartbeats 8000000 in
set_option maxRecDepth 100000 in
theorem cxm_happening (l : Launch) (E : vE) (F : Nat) (a : Nat → Nat) (S : vS) (v1 : Int32) (v2 : Int32) (r : Int32) (S2 : vS) (h : xm_happening F S v1 v2 = some (r, S2)) : CtI l yX12_happening cX12_happening 3 (some .int) 3 E [.ref (a 0), .int v1, .int v2] (wf_X12 E a S) (wf_X12 E a S2) r := by
  unfold xm_happening at h
  obtain ⟨u, hu, h2⟩ := mp_some h
  have e1 : _ = r := congrArg Prod.fst h2
  have e2 : _ = S2 := congrArg Prod.snd h2
  rw [← e1, ← e2]
  exact CtI.frame (n1 := 18) (ct_X12_happening l E F (a 0) (a 1) (a 2) (a 3) (a 4) (a 5) (a 6) (a 7) (a 8) (a 9) (a 10) (a 11) (a 12) (a 13) (a 14) (a 15) (a 16) (a 17) (S.1 0) (S.2.1 0) (S.2.1 1) (S.1 1) (S.1 2) (S.1 3) (S.1 4) (S.1 5) (S.1 6) (S.1 7) (S.1 8) (S.1 9) (S.1 10) (S.1 11) (S.1 12) (S.1 13) (S.1 14) (S.1 15) (S.1 16) (S.1 17) (S.1 18) (S.1 19) (S.2.2.1 0) v1 v2 u hu) [0, 1] rfl (by decide +kernel) rfl [some 0, some 1, none, none, none, none, none, none, none, none, none, none, none, none, none, none, none, none] rfl (by decide +kernel) rfl
def xm_watcher (F : Nat) (S : vS) (v1 : Int32) (v2 : Int32) : Option (Int32 × vS) := (X12_watcher (S.1 0) (S.2.2.1 0) v1 v2).map fun u => (u.1, (sI S 0 u.2))
set_option maxHeartbeats 8000000 in
set_option maxRecDepth 100000 in
theorem cxm_watcher (l : Launch) (E : vE) (F : Nat) (a : Nat → Nat) (S : vS) (v1 : Int32) (v2 : Int32) (r : Int32) (S2 : vS) (h : xm_watcher F S v1 v2 = some (r, S2)) : CtI l yX12_watcher cX12_watcher 3 (some .int) 2 E [.ref (a 0), .int v1, .int v2] (wf_X12 E a S) (wf_X12 E a S2) r := by
  unfold xm_watcher at h
  obtain ⟨u, hu, h2⟩ := mp_some h
  have e1 : _ = r := congrArg Prod.fst h2
  have e2 : _ = S2 := congrArg Prod.snd h2
  rw [← e1, ← e2]
  exact CtI.frame (n1 := 18) (ct_X12_watcher l E (a 0) (a 1) (a 2) (a 3) (a 4) (a 5) (a 6) (a 7) (a 8) (a 9) (a 10) (a 11) (a 12) (a 13) (a 14) (a 15) (a 16) (a 17) (S.1 0) (S.2.1 0) (S.2.1 1) (S.1 1) (S.1 2) (S.1 3) (S.1 4) (S.1 5) (S.1 6) (S.1 7) (S.1 8) (S.1 9) (S.1 10) (S.1 11) (S.1 12) (S.1 13) (S.1 14) (S.1 15) (S.1 16) (S.1 17) (S.1 18) (S.1 19) (S.2.2.1 0) v1 v2 u hu) [0, 1] rfl (by decide +kernel) rfl [some 0, some 1, none, none, none, none, none, none, none, none, none, none, none, none, none, none, none, none] rfl (by decide +kernel) rfl
def xm_standing (F : Nat) (S : vS) (v1 : Int32) : Option (Int32 × vS) := (X12_standing F (S.1 0) (S.2.2.1 0) v1).map fun u => (u.1, (sI S 0 u.2))
set_option maxHeartbeats 8000000 in
set_option maxRecDepth 100000 in
theorem cxm_standing (l : Launch) (E : vE) (F : Nat) (a : Nat → Nat) (S : vS) (v1 : Int32) (r : Int32) (S2 : vS) (h : xm_standing F S v1 = some (r, S2)) : CtI l yX12_standing cX12_standing 2 (some .int) 3 E [.ref (a 0), .int v1] (wf_X12 E a S) (wf_X12 E a S2) r := by
  unfold xm_standing at h
  obtain ⟨u, hu, h2⟩ := mp_some h
  have e1 : _ = r := congrArg Prod.fst h2
  have e2 : _ = S2 := congrArg Prod.snd h2
  rw [← e1, ← e2]
  exact CtI.frame (n1 := 18) (ct_X12_standing l E F (a 0) (a 1) (a 2) (a 3) (a 4) (a 5) (a 6) (a 7) (a 8) (a 9) (a 10) (a 11) (a 12) (a 13) (a 14) (a 15) (a 16) (a 17) (S.1 0) (S.2.1 0) (S.2.1 1) (S.1 1) (S.1 2) (S.1 3) (S.1 4) (S.1 5) (S.1 6) (S.1 7) (S.1 8) (S.1 9) (S.1 10) (S.1 11) (S.1 12) (S.1 13) (S.1 14) (S.1 15) (S.1 16) (S.1 17) (S.1 18) (S.1 19) (S.2.2.1 0) v1 u hu) [0, 1] rfl (by decide +kernel) rfl [some 0, some 1, none, none, none, none, none, none, none, none, none, none, none, none, none, none, none, none] rfl (by decide +kernel) rfl
def xm_road (F : Nat) (S : vS) (v1 : Int32) (v2 : Int32) : Option (Int32 × vS) := (X12_road F (S.1 0) (S.2.2.1 0) v1 v2).map fun u => (u.1, (sI S 0 u.2))
set_option maxHeartbeats 8000000 in
set_option maxRecDepth 100000 in
theorem cxm_road (l : Launch) (E : vE) (F : Nat) (a : Nat → Nat) (S : vS) (v1 : Int32) (v2 : Int32) (r : Int32) (S2 : vS) (h : xm_road F S v1 v2 = some (r, S2)) : CtI l yX12_road cX12_road 4 (some .int) 2 E [.ref (a 0), .int v1, .int v2] (wf_X12 E a S) (wf_X12 E a S2) r := by
  unfold xm_road at h
  obtain ⟨u, hu, h2⟩ := mp_some h
  have e1 : _ = r := congrArg Prod.fst h2
  have e2 : _ = S2 := congrArg Prod.snd h2
  rw [← e1, ← e2]
  exact CtI.frame (n1 := 18) (ct_X12_road l E F (a 0) (a 1) (a 2) (a 3) (a 4) (a 5) (a 6) (a 7) (a 8) (a 9) (a 10) (a 11) (a 12) (a 13) (a 14) (a 15) (a 16) (a 17) (S.1 0) (S.2.1 0) (S.2.1 1) (S.1 1) (S.1 2) (S.1 3) (S.1 4) (S.1 5) (S.1 6) (S.1 7) (S.1 8) (S.1 9) (S.1 10) (S.1 11) (S.1 12) (S.1 13) (S.1 14) (S.1 15) (S.1 16) (S.1 17) (S.1 18) (S.1 19) (S.2.2.1 0) v1 v2 u hu) [0, 1] rfl (by decide +kernel) rfl [some 0, some 1, none, none, none, none, none, none, none, none, none, none, none, none, none, none, none, none] rfl (by decide +kernel) rfl
def xm_hour (F : Nat) (S : vS) (v1 : Int32) : Option (Int32 × vS) := (X12_hour F (S.1 0) (S.2.2.1 0) (S.2.2.1 6) v1).map fun u => (u.1, (sA (sA (sI S 0 u.2.1) 0 u.2.2.1) 6 u.2.2.2))
set_option maxHeartbeats 8000000 in
set_option maxRecDepth 100000 in
theorem cxm_hour (l : Launch) (E : vE) (F : Nat) (a : Nat → Nat) (S : vS) (v1 : Int32) (r : Int32) (S2 : vS) (h : xm_hour F S v1 = some (r, S2)) : CtI l yX12_hour cX12_hour 2 (some .int) 8 E [.ref (a 0), .int v1] (wf_X12 E a S) (wf_X12 E a S2) r := by
  unfold xm_hour at h
  obtain ⟨u, hu, h2⟩ := mp_some h
  have e1 : _ = r := congrArg Prod.fst h2
  have e2 : _ = S2 := congrArg Prod.snd h2
  rw [← e1, ← e2]
  exact CtI.frame (n1 := 18) (ct_X12_hour l E F (a 0) (a 1) (a 2) (a 3) (a 4) (a 5) (a 6) (a 7) (a 8) (a 9) (a 10) (a 11) (a 12) (a 13) (a 14) (a 15) (a 16) (a 17) (S.1 0) (S.2.1 0) (S.2.1 1) (S.1 1) (S.1 2) (S.1 3) (S.1 4) (S.1 5) (S.1 6) (S.1 7) (S.1 8) (S.1 9) (S.1 10) (S.1 11) (S.1 12) (S.1 13) (S.1 14) (S.1 15) (S.1 16) (S.1 17) (S.1 18) (S.1 19) (S.2.2.1 0) (S.2.2.1 6) v1 u hu) [0, 1, 9] rfl (by decide +kernel) rfl [some 0, some 1, none, none, none, none, none, none, none, some 2, none, none, none, none, none, none, none, none] rfl (by decide +kernel) rfl
def xm_order (F : Nat) (S : vS) (v1 : Int32) (v2 : Int32) (v3 : Int32) : Option (Int32 × vS) := (X12_order (S.1 0) (S.2.2.1 0) v1 v2 v3).map fun u => (u.1, (sA (sI S 0 u.2.1) 0 u.2.2))
set_option maxHeartbeats 8000000 in
set_option maxRecDepth 100000 in
theorem cxm_order (l : Launch) (E : vE) (F : Nat) (a : Nat → Nat) (S : vS) (v1 : Int32) (v2 : Int32) (v3 : Int32) (r : Int32) (S2 : vS) (h : xm_order F S v1 v2 v3 = some (r, S2)) : CtI l yX12_order cX12_order 4 (some .boolean) 2 E [.ref (a 0), .int v1, .int v2, .int v3] (wf_X12 E a S) (wf_X12 E a S2) r := by
  unfold xm_order at h
  obtain ⟨u, hu, h2⟩ := mp_some h
  have e1 : _ = r := congrArg Prod.fst h2
  have e2 : _ = S2 := congrArg Prod.snd h2
  rw [← e1, ← e2]
  exact CtI.frame (n1 := 18) (ct_X12_order l E (a 0) (a 1) (a 2) (a 3) (a 4) (a 5) (a 6) (a 7) (a 8) (a 9) (a 10) (a 11) (a 12) (a 13) (a 14) (a 15) (a 16) (a 17) (S.1 0) (S.2.1 0) (S.2.1 1) (S.1 1) (S.1 2) (S.1 3) (S.1 4) (S.1 5) (S.1 6) (S.1 7) (S.1 8) (S.1 9) (S.1 10) (S.1 11) (S.1 12) (S.1 13) (S.1 14) (S.1 15) (S.1 16) (S.1 17) (S.1 18) (S.1 19) (S.2.2.1 0) v1 v2 v3 u hu) [0, 1] rfl (by decide +kernel) rfl [some 0, some 1, none, none, none, none, none, none, none, none, none, none, none, none, none, none, none, none] rfl (by decide +kernel) rfl
def xm_put (F : Nat) (S : vS) (v1 : Int32) (v2 : Int32) : Option (Int32 × vS) := (X12_put (S.1 0) (S.2.2.1 0) v1 v2).map fun u => (u.1, (sA (sI S 0 u.2.1) 0 u.2.2))
set_option maxHeartbeats 8000000 in
set_option maxRecDepth 100000 in
theorem cxm_put (l : Launch) (E : vE) (F : Nat) (a : Nat → Nat) (S : vS) (v1 : Int32) (v2 : Int32) (r : Int32) (S2 : vS) (h : xm_put F S v1 v2 = some (r, S2)) : CtI l yX12_put cX12_put 3 (some .int) 4 E [.ref (a 0), .int v1, .int v2] (wf_X12 E a S) (wf_X12 E a S2) r := by
  unfold xm_put at h
  obtain ⟨u, hu, h2⟩ := mp_some h
  have e1 : _ = r := congrArg Prod.fst h2
  have e2 : _ = S2 := congrArg Prod.snd h2
  rw [← e1, ← e2]
  exact CtI.frame (n1 := 18) (ct_X12_put l E (a 0) (a 1) (a 2) (a 3) (a 4) (a 5) (a 6) (a 7) (a 8) (a 9) (a 10) (a 11) (a 12) (a 13) (a 14) (a 15) (a 16) (a 17) (S.1 0) (S.2.1 0) (S.2.1 1) (S.1 1) (S.1 2) (S.1 3) (S.1 4) (S.1 5) (S.1 6) (S.1 7) (S.1 8) (S.1 9) (S.1 10) (S.1 11) (S.1 12) (S.1 13) (S.1 14) (S.1 15) (S.1 16) (S.1 17) (S.1 18) (S.1 19) (S.2.2.1 0) v1 v2 u hu) [0, 1] rfl (by decide +kernel) rfl [some 0, some 1, none, none, none, none, none, none, none, none, none, none, none, none, none, none, none, none] rfl (by decide +kernel) rfl
def xm_raise (F : Nat) (S : vS) (v1 : Int32) (v2 : Int32) : Option (Int32 × vS) := (X12_raise (S.1 0) (S.2.2.1 0) v1 v2).map fun u => (u.1, (sA (sI S 0 u.2.1) 0 u.2.2))
set_option maxHeartbeats 8000000 in
set_option maxRecDepth 100000 in
theorem cxm_raise (l : Launch) (E : vE) (F : Nat) (a : Nat → Nat) (S : vS) (v1 : Int32) (v2 : Int32) (r : Int32) (S2 : vS) (h : xm_raise F S v1 v2 = some (r, S2)) : CtI l yX12_raise cX12_raise 3 (some .boolean) 3 E [.ref (a 0), .int v1, .int v2] (wf_X12 E a S) (wf_X12 E a S2) r := by
  unfold xm_raise at h
  obtain ⟨u, hu, h2⟩ := mp_some h
  have e1 : _ = r := congrArg Prod.fst h2
  have e2 : _ = S2 := congrArg Prod.snd h2
  rw [← e1, ← e2]
  exact CtI.frame (n1 := 18) (ct_X12_raise l E (a 0) (a 1) (a 2) (a 3) (a 4) (a 5) (a 6) (a 7) (a 8) (a 9) (a 10) (a 11) (a 12) (a 13) (a 14) (a 15) (a 16) (a 17) (S.1 0) (S.2.1 0) (S.2.1 1) (S.1 1) (S.1 2) (S.1 3) (S.1 4) (S.1 5) (S.1 6) (S.1 7) (S.1 8) (S.1 9) (S.1 10) (S.1 11) (S.1 12) (S.1 13) (S.1 14) (S.1 15) (S.1 16) (S.1 17) (S.1 18) (S.1 19) (S.2.2.1 0) v1 v2 u hu) [0, 1] rfl (by decide +kernel) rfl [some 0, some 1, none, none, none, none, none, none, none, none, none, none, none, none, none, none, none, none] rfl (by decide +kernel) rfl
def xm_plan (F : Nat) (S : vS) (v1 : Int32) (v2 : Int32) (v3 : Int32) : Option (Int32 × vS) := (X12_plan (S.1 0) (S.2.2.1 0) (S.2.2.2 0) v1 v2 v3).map fun u => (u.1, (sB (sA (sI S 0 u.2.1) 0 u.2.2.1) 0 u.2.2.2))
set_option maxHeartbeats 8000000 in
set_option maxRecDepth 100000 in
theorem cxm_plan (l : Launch) (E : vE) (F : Nat) (a : Nat → Nat) (S : vS) (v1 : Int32) (v2 : Int32) (v3 : Int32) (r : Int32) (S2 : vS) (h : xm_plan F S v1 v2 v3 = some (r, S2)) : CtI l yX12_plan cX12_plan 5 (some .int) 1 E [.ref (a 0), .int v1, .int v2, .int v3] (wf_X12 E a S) (wf_X12 E a S2) r := by
  unfold xm_plan at h
  obtain ⟨u, hu, h2⟩ := mp_some h
  have e1 : _ = r := congrArg Prod.fst h2
  have e2 : _ = S2 := congrArg Prod.snd h2
  rw [← e1, ← e2]
  exact CtI.frame (n1 := 18) (ct_X12_plan l E (a 0) (a 1) (a 2) (a 3) (a 4) (a 5) (a 6) (a 7) (a 8) (a 9) (a 10) (a 11) (a 12) (a 13) (a 14) (a 15) (a 16) (a 17) (S.1 0) (S.2.1 0) (S.2.1 1) (S.1 1) (S.1 2) (S.1 3) (S.1 4) (S.1 5) (S.1 6) (S.1 7) (S.1 8) (S.1 9) (S.1 10) (S.1 11) (S.1 12) (S.1 13) (S.1 14) (S.1 15) (S.1 16) (S.1 17) (S.1 18) (S.1 19) (S.2.2.1 0) (S.2.2.2 0) v1 v2 v3 u hu) [0, 1, 2] rfl (by decide +kernel) rfl [some 0, some 1, some 2, none, none, none, none, none, none, none, none, none, none, none, none, none, none, none] rfl (by decide +kernel) rfl
def xm_bear (F : Nat) (S : vS) (v1 : Int32) : Option (Int32 × vS) := (X12_bear F (S.1 0) (S.2.2.1 0) (S.2.2.2 0) v1).map fun u => (u.1, (sB (sA (sI S 0 u.2.1) 0 u.2.2.1) 0 u.2.2.2))
set_option maxHeartbeats 8000000 in
set_option maxRecDepth 100000 in
theorem cxm_bear (l : Launch) (E : vE) (F : Nat) (a : Nat → Nat) (S : vS) (v1 : Int32) (r : Int32) (S2 : vS) (h : xm_bear F S v1 = some (r, S2)) : CtI l yX12_bear cX12_bear 4 (some .int) 1 E [.ref (a 0), .int v1] (wf_X12 E a S) (wf_X12 E a S2) r := by
  unfold xm_bear at h
  obtain ⟨u, hu, h2⟩ := mp_some h
  have e1 : _ = r := congrArg Prod.fst h2
  have e2 : _ = S2 := congrArg Prod.snd h2
  rw [← e1, ← e2]
  exact CtI.frame (n1 := 18) (ct_X12_bear l E F (a 0) (a 1) (a 2) (a 3) (a 4) (a 5) (a 6) (a 7) (a 8) (a 9) (a 10) (a 11) (a 12) (a 13) (a 14) (a 15) (a 16) (a 17) (S.1 0) (S.2.1 0) (S.2.1 1) (S.1 1) (S.1 2) (S.1 3) (S.1 4) (S.1 5) (S.1 6) (S.1 7) (S.1 8) (S.1 9) (S.1 10) (S.1 11) (S.1 12) (S.1 13) (S.1 14) (S.1 15) (S.1 16) (S.1 17) (S.1 18) (S.1 19) (S.2.2.1 0) (S.2.2.2 0) v1 u hu) [0, 1, 2] rfl (by decide +kernel) rfl [some 0, some 1, some 2, none, none, none, none, none, none, none, none, none, none, none, none, none, none, none] rfl (by decide +kernel) rfl
def xm_post (F : Nat) (S : vS) (v1 : Int32) (v2 : Int32) : Option (Int32 × vS) := (X12_post (S.1 0) (S.2.2.1 0) v1 v2).map fun u => (u.1, (sA (sI S 0 u.2.1) 0 u.2.2))
set_option maxHeartbeats 8000000 in
set_option maxRecDepth 100000 in
theorem cxm_post (l : Launch) (E : vE) (F : Nat) (a : Nat → Nat) (S : vS) (v1 : Int32) (v2 : Int32) (r : Int32) (S2 : vS) (h : xm_post F S v1 v2 = some (r, S2)) : CtI l yX12_post cX12_post 3 (some .boolean) 2 E [.ref (a 0), .int v1, .int v2] (wf_X12 E a S) (wf_X12 E a S2) r := by
  unfold xm_post at h
  obtain ⟨u, hu, h2⟩ := mp_some h
  have e1 : _ = r := congrArg Prod.fst h2
  have e2 : _ = S2 := congrArg Prod.snd h2
  rw [← e1, ← e2]
  exact CtI.frame (n1 := 18) (ct_X12_post l E (a 0) (a 1) (a 2) (a 3) (a 4) (a 5) (a 6) (a 7) (a 8) (a 9) (a 10) (a 11) (a 12) (a 13) (a 14) (a 15) (a 16) (a 17) (S.1 0) (S.2.1 0) (S.2.1 1) (S.1 1) (S.1 2) (S.1 3) (S.1 4) (S.1 5) (S.1 6) (S.1 7) (S.1 8) (S.1 9) (S.1 10) (S.1 11) (S.1 12) (S.1 13) (S.1 14) (S.1 15) (S.1 16) (S.1 17) (S.1 18) (S.1 19) (S.2.2.1 0) v1 v2 u hu) [0, 1] rfl (by decide +kernel) rfl [some 0, some 1, none, none, none, none, none, none, none, none, none, none, none, none, none, none, none, none] rfl (by decide +kernel) rfl
def xm_scare (F : Nat) (S : vS) (v1 : Int32) (v2 : Int32) : Option (Int32 × vS) := (X12_scare (S.1 0) (S.2.2.1 0) v1 v2).map fun u => (u.1, (sA (sI S 0 u.2.1) 0 u.2.2))
set_option maxHeartbeats 8000000 in
set_option maxRecDepth 100000 in
theorem cxm_scare (l : Launch) (E : vE) (F : Nat) (a : Nat → Nat) (S : vS) (v1 : Int32) (v2 : Int32) (r : Int32) (S2 : vS) (h : xm_scare F S v1 v2 = some (r, S2)) : CtI l yX12_scare cX12_scare 3 (some .boolean) 1 E [.ref (a 0), .int v1, .int v2] (wf_X12 E a S) (wf_X12 E a S2) r := by
  unfold xm_scare at h
  obtain ⟨u, hu, h2⟩ := mp_some h
  have e1 : _ = r := congrArg Prod.fst h2
  have e2 : _ = S2 := congrArg Prod.snd h2
  rw [← e1, ← e2]
  exact CtI.frame (n1 := 18) (ct_X12_scare l E (a 0) (a 1) (a 2) (a 3) (a 4) (a 5) (a 6) (a 7) (a 8) (a 9) (a 10) (a 11) (a 12) (a 13) (a 14) (a 15) (a 16) (a 17) (S.1 0) (S.2.1 0) (S.2.1 1) (S.1 1) (S.1 2) (S.1 3) (S.1 4) (S.1 5) (S.1 6) (S.1 7) (S.1 8) (S.1 9) (S.1 10) (S.1 11) (S.1 12) (S.1 13) (S.1 14) (S.1 15) (S.1 16) (S.1 17) (S.1 18) (S.1 19) (S.2.2.1 0) v1 v2 u hu) [0, 1] rfl (by decide +kernel) rfl [some 0, some 1, none, none, none, none, none, none, none, none, none, none, none, none, none, none, none, none] rfl (by decide +kernel) rfl
def xm_rule (F : Nat) (S : vS) (v1 : Int32) (v2 : Int32) : Option (Int32 × vS) := (X12_rule (S.1 0) (S.2.2.1 0) v1 v2).map fun u => (u.1, (sA (sI S 0 u.2.1) 0 u.2.2))
set_option maxHeartbeats 8000000 in
set_option maxRecDepth 100000 in
theorem cxm_rule (l : Launch) (E : vE) (F : Nat) (a : Nat → Nat) (S : vS) (v1 : Int32) (v2 : Int32) (r : Int32) (S2 : vS) (h : xm_rule F S v1 v2 = some (r, S2)) : CtI l yX12_rule cX12_rule 3 (some .boolean) 1 E [.ref (a 0), .int v1, .int v2] (wf_X12 E a S) (wf_X12 E a S2) r := by
  unfold xm_rule at h
  obtain ⟨u, hu, h2⟩ := mp_some h
  have e1 : _ = r := congrArg Prod.fst h2
  have e2 : _ = S2 := congrArg Prod.snd h2
  rw [← e1, ← e2]
  exact CtI.frame (n1 := 18) (ct_X12_rule l E (a 0) (a 1) (a 2) (a 3) (a 4) (a 5) (a 6) (a 7) (a 8) (a 9) (a 10) (a 11) (a 12) (a 13) (a 14) (a 15) (a 16) (a 17) (S.1 0) (S.2.1 0) (S.2.1 1) (S.1 1) (S.1 2) (S.1 3) (S.1 4) (S.1 5) (S.1 6) (S.1 7) (S.1 8) (S.1 9) (S.1 10) (S.1 11) (S.1 12) (S.1 13) (S.1 14) (S.1 15) (S.1 16) (S.1 17) (S.1 18) (S.1 19) (S.2.2.1 0) v1 v2 u hu) [0, 1] rfl (by decide +kernel) rfl [some 0, some 1, none, none, none, none, none, none, none, none, none, none, none, none, none, none, none, none] rfl (by decide +kernel) rfl
def xm_far (F : Nat) (S : vS) (v1 : Int32) (v2 : Int32) : Option (Int32 × vS) := (X12_far F (S.1 0) (S.2.2.1 0) (S.2.2.1 6) v1 v2).map fun u => (u.1, (sA (sI S 0 u.2.1) 6 u.2.2))
set_option maxHeartbeats 8000000 in
set_option maxRecDepth 100000 in
theorem cxm_far (l : Launch) (E : vE) (F : Nat) (a : Nat → Nat) (S : vS) (v1 : Int32) (v2 : Int32) (r : Int32) (S2 : vS) (h : xm_far F S v1 v2 = some (r, S2)) : CtI l yX12_far cX12_far 4 (some .int) 3 E [.ref (a 0), .int v1, .int v2] (wf_X12 E a S) (wf_X12 E a S2) r := by
  unfold xm_far at h
  obtain ⟨u, hu, h2⟩ := mp_some h
  have e1 : _ = r := congrArg Prod.fst h2
  have e2 : _ = S2 := congrArg Prod.snd h2
  rw [← e1, ← e2]
  exact CtI.frame (n1 := 18) (ct_X12_far l E F (a 0) (a 1) (a 2) (a 3) (a 4) (a 5) (a 6) (a 7) (a 8) (a 9) (a 10) (a 11) (a 12) (a 13) (a 14) (a 15) (a 16) (a 17) (S.1 0) (S.2.1 0) (S.2.1 1) (S.1 1) (S.1 2) (S.1 3) (S.1 4) (S.1 5) (S.1 6) (S.1 7) (S.1 8) (S.1 9) (S.1 10) (S.1 11) (S.1 12) (S.1 13) (S.1 14) (S.1 15) (S.1 16) (S.1 17) (S.1 18) (S.1 19) (S.2.2.1 0) (S.2.2.1 6) v1 v2 u hu) [0, 1, 9] rfl (by decide +kernel) rfl [some 0, some 1, none, none, none, none, none, none, none, some 2, none, none, none, none, none, none, none, none] rfl (by decide +kernel) rfl
def xm_way (F : Nat) (S : vS) (v1 : Int32) (v2 : Int32) : Option (Int32 × vS) := (X12_way F (S.1 0) (S.2.2.1 0) (S.2.2.1 6) v1 v2).map fun u => (u.1, (sA (sI S 0 u.2.1) 6 u.2.2))
set_option maxHeartbeats 8000000 in
set_option maxRecDepth 100000 in
theorem cxm_way (l : Launch) (E : vE) (F : Nat) (a : Nat → Nat) (S : vS) (v1 : Int32) (v2 : Int32) (r : Int32) (S2 : vS) (h : xm_way F S v1 v2 = some (r, S2)) : CtI l yX12_way cX12_way 3 (some .int) 3 E [.ref (a 0), .int v1, .int v2] (wf_X12 E a S) (wf_X12 E a S2) r := by
  unfold xm_way at h
  obtain ⟨u, hu, h2⟩ := mp_some h
  have e1 : _ = r := congrArg Prod.fst h2
  have e2 : _ = S2 := congrArg Prod.snd h2
  rw [← e1, ← e2]
  exact CtI.frame (n1 := 18) (ct_X12_way l E F (a 0) (a 1) (a 2) (a 3) (a 4) (a 5) (a 6) (a 7) (a 8) (a 9) (a 10) (a 11) (a 12) (a 13) (a 14) (a 15) (a 16) (a 17) (S.1 0) (S.2.1 0) (S.2.1 1) (S.1 1) (S.1 2) (S.1 3) (S.1 4) (S.1 5) (S.1 6) (S.1 7) (S.1 8) (S.1 9) (S.1 10) (S.1 11) (S.1 12) (S.1 13) (S.1 14) (S.1 15) (S.1 16) (S.1 17) (S.1 18) (S.1 19) (S.2.2.1 0) (S.2.2.1 6) v1 v2 u hu) [0, 1, 9] rfl (by decide +kernel) rfl [some 0, some 1, none, none, none, none, none, none, none, some 2, none, none, none, none, none, none, none, none] rfl (by decide +kernel) rfl
def xm_centre (F : Nat) (S : vS) : Option (Int32 × vS) := (X12_centre F (S.1 0) (S.2.2.1 0) (S.2.2.1 6)).map fun u => (u.1, (sA (sI S 0 u.2.1) 6 u.2.2))
set_option maxHeartbeats 8000000 in
set_option maxRecDepth 100000 in
theorem cxm_centre (l : Launch) (E : vE) (F : Nat) (a : Nat → Nat) (S : vS) (r : Int32) (S2 : vS) (h : xm_centre F S = some (r, S2)) : CtI l yX12_centre cX12_centre 6 (some .int) 3 E [.ref (a 0)] (wf_X12 E a S) (wf_X12 E a S2) r := by
  unfold xm_centre at h
  obtain ⟨u, hu, h2⟩ := mp_some h
  have e1 : _ = r := congrArg Prod.fst h2
  have e2 : _ = S2 := congrArg Prod.snd h2
  rw [← e1, ← e2]
  exact CtI.frame (n1 := 18) (ct_X12_centre l E F (a 0) (a 1) (a 2) (a 3) (a 4) (a 5) (a 6) (a 7) (a 8) (a 9) (a 10) (a 11) (a 12) (a 13) (a 14) (a 15) (a 16) (a 17) (S.1 0) (S.2.1 0) (S.2.1 1) (S.1 1) (S.1 2) (S.1 3) (S.1 4) (S.1 5) (S.1 6) (S.1 7) (S.1 8) (S.1 9) (S.1 10) (S.1 11) (S.1 12) (S.1 13) (S.1 14) (S.1 15) (S.1 16) (S.1 17) (S.1 18) (S.1 19) (S.2.2.1 0) (S.2.2.1 6) u hu) [0, 1, 9] rfl (by decide +kernel) rfl [some 0, some 1, none, none, none, none, none, none, none, some 2, none, none, none, none, none, none, none, none] rfl (by decide +kernel) rfl
def xm_cut (F : Nat) (S : vS) (v1 : Int32) (v2 : Int32) : Option (Int32 × vS) := (X12_cut F (S.1 0) (S.2.2.1 0) v1 v2).map fun u => (u.1, (sI S 0 u.2))
set_option maxHeartbeats 8000000 in
set_option maxRecDepth 100000 in
theorem cxm_cut (l : Launch) (E : vE) (F : Nat) (a : Nat → Nat) (S : vS) (v1 : Int32) (v2 : Int32) (r : Int32) (S2 : vS) (h : xm_cut F S v1 v2 = some (r, S2)) : CtI l yX12_cut cX12_cut 5 (some .int) 2 E [.ref (a 0), .int v1, .int v2] (wf_X12 E a S) (wf_X12 E a S2) r := by
  unfold xm_cut at h
  obtain ⟨u, hu, h2⟩ := mp_some h
  have e1 : _ = r := congrArg Prod.fst h2
  have e2 : _ = S2 := congrArg Prod.snd h2
  rw [← e1, ← e2]
  exact CtI.frame (n1 := 18) (ct_X12_cut l E F (a 0) (a 1) (a 2) (a 3) (a 4) (a 5) (a 6) (a 7) (a 8) (a 9) (a 10) (a 11) (a 12) (a 13) (a 14) (a 15) (a 16) (a 17) (S.1 0) (S.2.1 0) (S.2.1 1) (S.1 1) (S.1 2) (S.1 3) (S.1 4) (S.1 5) (S.1 6) (S.1 7) (S.1 8) (S.1 9) (S.1 10) (S.1 11) (S.1 12) (S.1 13) (S.1 14) (S.1 15) (S.1 16) (S.1 17) (S.1 18) (S.1 19) (S.2.2.1 0) v1 v2 u hu) [0, 1] rfl (by decide +kernel) rfl [some 0, some 1, none, none, none, none, none, none, none, none, none, none, none, none, none, none, none, none] rfl (by decide +kernel) rfl
def xm_goal (F : Nat) (S : vS) (v1 : Int32) : Option (Int32 × vS) := (X12_goal F (S.1 0) (S.2.2.1 0) v1).map fun u => (u.1, (sI S 0 u.2))
set_option maxHeartbeats 8000000 in
set_option maxRecDepth 100000 in
theorem cxm_goal (l : Launch) (E : vE) (F : Nat) (a : Nat → Nat) (S : vS) (v1 : Int32) (r : Int32) (S2 : vS) (h : xm_goal F S v1 = some (r, S2)) : CtI l yX12_goal cX12_goal 2 (some .int) 5 E [.ref (a 0), .int v1] (wf_X12 E a S) (wf_X12 E a S2) r := by
  unfold xm_goal at h
  obtain ⟨u, hu, h2⟩ := mp_some h
  have e1 : _ = r := congrArg Prod.fst h2
  have e2 : _ = S2 := congrArg Prod.snd h2
  rw [← e1, ← e2]
  exact CtI.frame (n1 := 18) (ct_X12_goal l E F (a 0) (a 1) (a 2) (a 3) (a 4) (a 5) (a 6) (a 7) (a 8) (a 9) (a 10) (a 11) (a 12) (a 13) (a 14) (a 15) (a 16) (a 17) (S.1 0) (S.2.1 0) (S.2.1 1) (S.1 1) (S.1 2) (S.1 3) (S.1 4) (S.1 5) (S.1 6) (S.1 7) (S.1 8) (S.1 9) (S.1 10) (S.1 11) (S.1 12) (S.1 13) (S.1 14) (S.1 15) (S.1 16) (S.1 17) (S.1 18) (S.1 19) (S.2.2.1 0) v1 u hu) [0, 1] rfl (by decide +kernel) rfl [some 0, some 1, none, none, none, none, none, none, none, none, none, none, none, none, none, none, none, none] rfl (by decide +kernel) rfl
def xm_whereIn (F : Nat) (S : vS) (v1 : Int32) (v2 : Int32) : Option (Int32 × vS) := (X12_whereIn F (S.1 0) (S.2.2.1 0) (S.2.2.1 6) v1 v2).map fun u => (u.1, (sA (sA (sI S 0 u.2.1) 0 u.2.2.1) 6 u.2.2.2))
set_option maxHeartbeats 8000000 in
set_option maxRecDepth 100000 in
theorem cxm_whereIn (l : Launch) (E : vE) (F : Nat) (a : Nat → Nat) (S : vS) (v1 : Int32) (v2 : Int32) (r : Int32) (S2 : vS) (h : xm_whereIn F S v1 v2 = some (r, S2)) : CtI l yX12_whereIn cX12_whereIn 3 (some .int) 9 E [.ref (a 0), .int v1, .int v2] (wf_X12 E a S) (wf_X12 E a S2) r := by
  unfold xm_whereIn at h
  obtain ⟨u, hu, h2⟩ := mp_some h
  have e1 : _ = r := congrArg Prod.fst h2
  have e2 : _ = S2 := congrArg Prod.snd h2
  rw [← e1, ← e2]
  exact CtI.frame (n1 := 18) (ct_X12_whereIn l E F (a 0) (a 1) (a 2) (a 3) (a 4) (a 5) (a 6) (a 7) (a 8) (a 9) (a 10) (a 11) (a 12) (a 13) (a 14) (a 15) (a 16) (a 17) (S.1 0) (S.2.1 0) (S.2.1 1) (S.1 1) (S.1 2) (S.1 3) (S.1 4) (S.1 5) (S.1 6) (S.1 7) (S.1 8) (S.1 9) (S.1 10) (S.1 11) (S.1 12) (S.1 13) (S.1 14) (S.1 15) (S.1 16) (S.1 17) (S.1 18) (S.1 19) (S.2.2.1 0) (S.2.2.1 6) v1 v2 u hu) [0, 1, 9] rfl (by decide +kernel) rfl [some 0, some 1, none, none, none, none, none, none, none, some 2, none, none, none, none, none, none, none, none] rfl (by decide +kernel) rfl
def xm_standingIn (F : Nat) (S : vS) (v1 : Int32) (v2 : Int32) : Option (Int32 × vS) := (X12_standingIn F (S.1 0) (S.2.2.1 0) (S.2.2.1 6) v1 v2).map fun u => (u.1, (sA (sA (sI S 0 u.2.1) 0 u.2.2.1) 6 u.2.2.2))
set_option maxHeartbeats 8000000 in
set_option maxRecDepth 100000 in
theorem cxm_standingIn (l : Launch) (E : vE) (F : Nat) (a : Nat → Nat) (S : vS) (v1 : Int32) (v2 : Int32) (r : Int32) (S2 : vS) (h : xm_standingIn F S v1 v2 = some (r, S2)) : CtI l yX12_standingIn cX12_standingIn 4 (some .int) 8 E [.ref (a 0), .int v1, .int v2] (wf_X12 E a S) (wf_X12 E a S2) r := by
  unfold xm_standingIn at h
  obtain ⟨u, hu, h2⟩ := mp_some h
  have e1 : _ = r := congrArg Prod.fst h2
  have e2 : _ = S2 := congrArg Prod.snd h2
  rw [← e1, ← e2]
  exact CtI.frame (n1 := 18) (ct_X12_standingIn l E F (a 0) (a 1) (a 2) (a 3) (a 4) (a 5) (a 6) (a 7) (a 8) (a 9) (a 10) (a 11) (a 12) (a 13) (a 14) (a 15) (a 16) (a 17) (S.1 0) (S.2.1 0) (S.2.1 1) (S.1 1) (S.1 2) (S.1 3) (S.1 4) (S.1 5) (S.1 6) (S.1 7) (S.1 8) (S.1 9) (S.1 10) (S.1 11) (S.1 12) (S.1 13) (S.1 14) (S.1 15) (S.1 16) (S.1 17) (S.1 18) (S.1 19) (S.2.2.1 0) (S.2.2.1 6) v1 v2 u hu) [0, 1, 9] rfl (by decide +kernel) rfl [some 0, some 1, none, none, none, none, none, none, none, some 2, none, none, none, none, none, none, none, none] rfl (by decide +kernel) rfl
def xm_overIn (F : Nat) (S : vS) (v1 : Int32) : Option (Int32 × vS) := (X12_overIn F (S.1 0) (S.1 14) (S.2.2.1 0) (S.2.2.1 6) v1).map fun u => (u.1, (sA (sA (sI (sI S 0 u.2.1) 14 u.2.2.1) 0 u.2.2.2.1) 6 u.2.2.2.2))
set_option maxHeartbeats 8000000 in
set_option maxRecDepth 100000 in
theorem cxm_overIn (l : Launch) (E : vE) (F : Nat) (a : Nat → Nat) (S : vS) (v1 : Int32) (r : Int32) (S2 : vS) (h : xm_overIn F S v1 = some (r, S2)) : CtI l yX12_overIn cX12_overIn 2 (some .int) 8 E [.ref (a 0), .int v1] (wf_X12 E a S) (wf_X12 E a S2) r := by
  unfold xm_overIn at h
  obtain ⟨u, hu, h2⟩ := mp_some h
  have e1 : _ = r := congrArg Prod.fst h2
  have e2 : _ = S2 := congrArg Prod.snd h2
  rw [← e1, ← e2]
  exact CtI.frame (n1 := 18) (ct_X12_overIn l E F (a 0) (a 1) (a 2) (a 3) (a 4) (a 5) (a 6) (a 7) (a 8) (a 9) (a 10) (a 11) (a 12) (a 13) (a 14) (a 15) (a 16) (a 17) (S.1 0) (S.2.1 0) (S.2.1 1) (S.1 1) (S.1 2) (S.1 3) (S.1 4) (S.1 5) (S.1 6) (S.1 7) (S.1 8) (S.1 9) (S.1 10) (S.1 11) (S.1 12) (S.1 13) (S.1 14) (S.1 15) (S.1 16) (S.1 17) (S.1 18) (S.1 19) (S.2.2.1 0) (S.2.2.1 6) v1 u hu) [0, 1, 9] rfl (by decide +kernel) rfl [some 0, some 1, none, none, none, none, none, none, none, some 2, none, none, none, none, none, none, none, none] rfl (by decide +kernel) rfl
def xm_becomes (F : Nat) (S : vS) (v1 : Int32) : Option (Int32 × vS) := (X12_becomes F (S.1 0) (S.1 14) (S.2.2.1 0) (S.2.2.1 6) v1).map fun u => (u.1, (sA (sA (sI (sI S 0 u.2.1) 14 u.2.2.1) 0 u.2.2.2.1) 6 u.2.2.2.2))
set_option maxHeartbeats 8000000 in
set_option maxRecDepth 100000 in
theorem cxm_becomes (l : Launch) (E : vE) (F : Nat) (a : Nat → Nat) (S : vS) (v1 : Int32) (r : Int32) (S2 : vS) (h : xm_becomes F S v1 = some (r, S2)) : CtI l yX12_becomes cX12_becomes 2 (some .int) 8 E [.ref (a 0), .int v1] (wf_X12 E a S) (wf_X12 E a S2) r := by
  unfold xm_becomes at h
  obtain ⟨u, hu, h2⟩ := mp_some h
  have e1 : _ = r := congrArg Prod.fst h2
  have e2 : _ = S2 := congrArg Prod.snd h2
  rw [← e1, ← e2]
  exact CtI.frame (n1 := 18) (ct_X12_becomes l E F (a 0) (a 1) (a 2) (a 3) (a 4) (a 5) (a 6) (a 7) (a 8) (a 9) (a 10) (a 11) (a 12) (a 13) (a 14) (a 15) (a 16) (a 17) (S.1 0) (S.2.1 0) (S.2.1 1) (S.1 1) (S.1 2) (S.1 3) (S.1 4) (S.1 5) (S.1 6) (S.1 7) (S.1 8) (S.1 9) (S.1 10) (S.1 11) (S.1 12) (S.1 13) (S.1 14) (S.1 15) (S.1 16) (S.1 17) (S.1 18) (S.1 19) (S.2.2.1 0) (S.2.2.1 6) v1 u hu) [0, 1, 9] rfl (by decide +kernel) rfl [some 0, some 1, none, none, none, none, none, none, none, some 2, none, none, none, none, none, none, none, none] rfl (by decide +kernel) rfl
def xm_wagesIn (F : Nat) (S : vS) (v1 : Int32) (v2 : Int32) : Option (Int32 × vS) := (X12_wagesIn F (S.1 0) (S.2.2.1 0) (S.2.2.1 6) v1 v2).map fun u => (u.1, (sA (sA (sI S 0 u.2.1) 0 u.2.2.1) 6 u.2.2.2))
set_option maxHeartbeats 8000000 in
set_option maxRecDepth 100000 in
theorem cxm_wagesIn (l : Launch) (E : vE) (F : Nat) (a : Nat → Nat) (S : vS) (v1 : Int32) (v2 : Int32) (r : Int32) (S2 : vS) (h : xm_wagesIn F S v1 v2 = some (r, S2)) : CtI l yX12_wagesIn cX12_wagesIn 3 (some .int) 9 E [.ref (a 0), .int v1, .int v2] (wf_X12 E a S) (wf_X12 E a S2) r := by
  unfold xm_wagesIn at h
  obtain ⟨u, hu, h2⟩ := mp_some h
  have e1 : _ = r := congrArg Prod.fst h2
  have e2 : _ = S2 := congrArg Prod.snd h2
  rw [← e1, ← e2]
  exact CtI.frame (n1 := 18) (ct_X12_wagesIn l E F (a 0) (a 1) (a 2) (a 3) (a 4) (a 5) (a 6) (a 7) (a 8) (a 9) (a 10) (a 11) (a 12) (a 13) (a 14) (a 15) (a 16) (a 17) (S.1 0) (S.2.1 0) (S.2.1 1) (S.1 1) (S.1 2) (S.1 3) (S.1 4) (S.1 5) (S.1 6) (S.1 7) (S.1 8) (S.1 9) (S.1 10) (S.1 11) (S.1 12) (S.1 13) (S.1 14) (S.1 15) (S.1 16) (S.1 17) (S.1 18) (S.1 19) (S.2.2.1 0) (S.2.2.1 6) v1 v2 u hu) [0, 1, 9] rfl (by decide +kernel) rfl [some 0, some 1, none, none, none, none, none, none, none, some 2, none, none, none, none, none, none, none, none] rfl (by decide +kernel) rfl
def xm_warnedIn (F : Nat) (S : vS) (v1 : Int32) (v2 : Int32) : Option (Int32 × vS) := (X12_warnedIn F (S.1 0) (S.2.2.1 0) (S.2.2.1 6) v1 v2).map fun u => (u.1, (sA (sA (sI S 0 u.2.1) 0 u.2.2.1) 6 u.2.2.2))
set_option maxHeartbeats 8000000 in
set_option maxRecDepth 100000 in
theorem cxm_warnedIn (l : Launch) (E : vE) (F : Nat) (a : Nat → Nat) (S : vS) (v1 : Int32) (v2 : Int32) (r : Int32) (S2 : vS) (h : xm_warnedIn F S v1 v2 = some (r, S2)) : CtI l yX12_warnedIn cX12_warnedIn 3 (some .int) 9 E [.ref (a 0), .int v1, .int v2] (wf_X12 E a S) (wf_X12 E a S2) r := by
  unfold xm_warnedIn at h
  obtain ⟨u, hu, h2⟩ := mp_some h
  have e1 : _ = r := congrArg Prod.fst h2
  have e2 : _ = S2 := congrArg Prod.snd h2
  rw [← e1, ← e2]
  exact CtI.frame (n1 := 18) (ct_X12_warnedIn l E F (a 0) (a 1) (a 2) (a 3) (a 4) (a 5) (a 6) (a 7) (a 8) (a 9) (a 10) (a 11) (a 12) (a 13) (a 14) (a 15) (a 16) (a 17) (S.1 0) (S.2.1 0) (S.2.1 1) (S.1 1) (S.1 2) (S.1 3) (S.1 4) (S.1 5) (S.1 6) (S.1 7) (S.1 8) (S.1 9) (S.1 10) (S.1 11) (S.1 12) (S.1 13) (S.1 14) (S.1 15) (S.1 16) (S.1 17) (S.1 18) (S.1 19) (S.2.2.1 0) (S.2.2.1 6) v1 v2 u hu) [0, 1, 9] rfl (by decide +kernel) rfl [some 0, some 1, none, none, none, none, none, none, none, some 2, none, none, none, none, none, none, none, none] rfl (by decide +kernel) rfl
def xm_attends (F : Nat) (S : vS) (v1 : Int32) (v2 : Int32) : Option (Int32 × vS) := (X12_attends F (S.1 0) (S.2.2.1 0) (S.2.2.1 6) v1 v2).map fun u => (u.1, (sA (sI S 0 u.2.1) 6 u.2.2))
set_option maxHeartbeats 8000000 in
set_option maxRecDepth 100000 in
theorem cxm_attends (l : Launch) (E : vE) (F : Nat) (a : Nat → Nat) (S : vS) (v1 : Int32) (v2 : Int32) (r : Int32) (S2 : vS) (h : xm_attends F S v1 v2 = some (r, S2)) : CtI l yX12_attends cX12_attends 3 (some .int) 5 E [.ref (a 0), .int v1, .int v2] (wf_X12 E a S) (wf_X12 E a S2) r := by
  unfold xm_attends at h
  obtain ⟨u, hu, h2⟩ := mp_some h
  have e1 : _ = r := congrArg Prod.fst h2
  have e2 : _ = S2 := congrArg Prod.snd h2
  rw [← e1, ← e2]
  exact CtI.frame (n1 := 18) (ct_X12_attends l E F (a 0) (a 1) (a 2) (a 3) (a 4) (a 5) (a 6) (a 7) (a 8) (a 9) (a 10) (a 11) (a 12) (a 13) (a 14) (a 15) (a 16) (a 17) (S.1 0) (S.2.1 0) (S.2.1 1) (S.1 1) (S.1 2) (S.1 3) (S.1 4) (S.1 5) (S.1 6) (S.1 7) (S.1 8) (S.1 9) (S.1 10) (S.1 11) (S.1 12) (S.1 13) (S.1 14) (S.1 15) (S.1 16) (S.1 17) (S.1 18) (S.1 19) (S.2.2.1 0) (S.2.2.1 6) v1 v2 u hu) [0, 1, 9] rfl (by decide +kernel) rfl [some 0, some 1, none, none, none, none, none, none, none, some 2, none, none, none, none, none, none, none, none] rfl (by decide +kernel) rfl
def xm_best (F : Nat) (S : vS) (v1 : Int32) : Option (Int32 × vS) := (X12_best F (S.1 0) (S.2.2.1 0) (S.2.2.1 6) v1).map fun u => (u.1, (sA (sI S 0 u.2.1) 6 u.2.2))
set_option maxHeartbeats 8000000 in
set_option maxRecDepth 100000 in
theorem cxm_best (l : Launch) (E : vE) (F : Nat) (a : Nat → Nat) (S : vS) (v1 : Int32) (r : Int32) (S2 : vS) (h : xm_best F S v1 = some (r, S2)) : CtI l yX12_best cX12_best 2 (some .int) 6 E [.ref (a 0), .int v1] (wf_X12 E a S) (wf_X12 E a S2) r := by
  unfold xm_best at h
  obtain ⟨u, hu, h2⟩ := mp_some h
  have e1 : _ = r := congrArg Prod.fst h2
  have e2 : _ = S2 := congrArg Prod.snd h2
  rw [← e1, ← e2]
  exact CtI.frame (n1 := 18) (ct_X12_best l E F (a 0) (a 1) (a 2) (a 3) (a 4) (a 5) (a 6) (a 7) (a 8) (a 9) (a 10) (a 11) (a 12) (a 13) (a 14) (a 15) (a 16) (a 17) (S.1 0) (S.2.1 0) (S.2.1 1) (S.1 1) (S.1 2) (S.1 3) (S.1 4) (S.1 5) (S.1 6) (S.1 7) (S.1 8) (S.1 9) (S.1 10) (S.1 11) (S.1 12) (S.1 13) (S.1 14) (S.1 15) (S.1 16) (S.1 17) (S.1 18) (S.1 19) (S.2.2.1 0) (S.2.2.1 6) v1 u hu) [0, 1, 9] rfl (by decide +kernel) rfl [some 0, some 1, none, none, none, none, none, none, none, some 2, none, none, none, none, none, none, none, none] rfl (by decide +kernel) rfl
def xm_bestWages (F : Nat) (S : vS) (v1 : Int32) : Option (Int32 × vS) := (X12_bestWages F (S.1 0) (S.2.2.1 0) (S.2.2.1 6) v1).map fun u => (u.1, (sA (sI S 0 u.2.1) 6 u.2.2))
set_option maxHeartbeats 8000000 in
set_option maxRecDepth 100000 in
theorem cxm_bestWages (l : Launch) (E : vE) (F : Nat) (a : Nat → Nat) (S : vS) (v1 : Int32) (r : Int32) (S2 : vS) (h : xm_bestWages F S v1 = some (r, S2)) : CtI l yX12_bestWages cX12_bestWages 2 (some .int) 6 E [.ref (a 0), .int v1] (wf_X12 E a S) (wf_X12 E a S2) r := by
  unfold xm_bestWages at h
  obtain ⟨u, hu, h2⟩ := mp_some h
  have e1 : _ = r := congrArg Prod.fst h2
  have e2 : _ = S2 := congrArg Prod.snd h2
  rw [← e1, ← e2]
  exact CtI.frame (n1 := 18) (ct_X12_bestWages l E F (a 0) (a 1) (a 2) (a 3) (a 4) (a 5) (a 6) (a 7) (a 8) (a 9) (a 10) (a 11) (a 12) (a 13) (a 14) (a 15) (a 16) (a 17) (S.1 0) (S.2.1 0) (S.2.1 1) (S.1 1) (S.1 2) (S.1 3) (S.1 4) (S.1 5) (S.1 6) (S.1 7) (S.1 8) (S.1 9) (S.1 10) (S.1 11) (S.1 12) (S.1 13) (S.1 14) (S.1 15) (S.1 16) (S.1 17) (S.1 18) (S.1 19) (S.2.2.1 0) (S.2.2.1 6) v1 u hu) [0, 1, 9] rfl (by decide +kernel) rfl [some 0, some 1, none, none, none, none, none, none, none, some 2, none, none, none, none, none, none, none, none] rfl (by decide +kernel) rfl
def xm_fewest (F : Nat) (S : vS) : Option (Int32 × vS) := (X12_fewest F (S.1 0) (S.2.2.1 0) (S.2.2.1 6) (S.2.2.1 7) (S.2.2.1 8)).map fun u => (u.1, (sA (sA (sA (sI S 0 u.2.1) 6 u.2.2.1) 7 u.2.2.2.1) 8 u.2.2.2.2))
set_option maxHeartbeats 8000000 in
set_option maxRecDepth 100000 in
theorem cxm_fewest (l : Launch) (E : vE) (F : Nat) (a : Nat → Nat) (S : vS) (r : Int32) (S2 : vS) (h : xm_fewest F S = some (r, S2)) : CtI l yX12_fewest cX12_fewest 2 (some .int) 7 E [.ref (a 0)] (wf_X12 E a S) (wf_X12 E a S2) r := by
  unfold xm_fewest at h
  obtain ⟨u, hu, h2⟩ := mp_some h
  have e1 : _ = r := congrArg Prod.fst h2
  have e2 : _ = S2 := congrArg Prod.snd h2
  rw [← e1, ← e2]
  exact CtI.frame (n1 := 18) (ct_X12_fewest l E F (a 0) (a 1) (a 2) (a 3) (a 4) (a 5) (a 6) (a 7) (a 8) (a 9) (a 10) (a 11) (a 12) (a 13) (a 14) (a 15) (a 16) (a 17) (S.1 0) (S.2.1 0) (S.2.1 1) (S.1 1) (S.1 2) (S.1 3) (S.1 4) (S.1 5) (S.1 6) (S.1 7) (S.1 8) (S.1 9) (S.1 10) (S.1 11) (S.1 12) (S.1 13) (S.1 14) (S.1 15) (S.1 16) (S.1 17) (S.1 18) (S.1 19) (S.2.2.1 0) (S.2.2.1 6) (S.2.2.1 7) (S.2.2.1 8) u hu) [0, 1, 9, 10, 11] rfl (by decide +kernel) rfl [some 0, some 1, none, none, none, none, none, none, none, some 2, some 3, some 4, none, none, none, none, none, none] rfl (by decide +kernel) rfl
def xm_fewestSet (F : Nat) (S : vS) : Option (Int32 × vS) := (X12_fewestSet F (S.1 0) (S.2.2.1 0) (S.2.2.1 6) (S.2.2.1 7) (S.2.2.1 8)).map fun u => (u.1, (sA (sA (sA (sI S 0 u.2.1) 6 u.2.2.1) 7 u.2.2.2.1) 8 u.2.2.2.2))
set_option maxHeartbeats 8000000 in
set_option maxRecDepth 100000 in
theorem cxm_fewestSet (l : Launch) (E : vE) (F : Nat) (a : Nat → Nat) (S : vS) (r : Int32) (S2 : vS) (h : xm_fewestSet F S = some (r, S2)) : CtI l yX12_fewestSet cX12_fewestSet 1 (some .int) 7 E [.ref (a 0)] (wf_X12 E a S) (wf_X12 E a S2) r := by
  unfold xm_fewestSet at h
  obtain ⟨u, hu, h2⟩ := mp_some h
  have e1 : _ = r := congrArg Prod.fst h2
  have e2 : _ = S2 := congrArg Prod.snd h2
  rw [← e1, ← e2]
  exact CtI.frame (n1 := 18) (ct_X12_fewestSet l E F (a 0) (a 1) (a 2) (a 3) (a 4) (a 5) (a 6) (a 7) (a 8) (a 9) (a 10) (a 11) (a 12) (a 13) (a 14) (a 15) (a 16) (a 17) (S.1 0) (S.2.1 0) (S.2.1 1) (S.1 1) (S.1 2) (S.1 3) (S.1 4) (S.1 5) (S.1 6) (S.1 7) (S.1 8) (S.1 9) (S.1 10) (S.1 11) (S.1 12) (S.1 13) (S.1 14) (S.1 15) (S.1 16) (S.1 17) (S.1 18) (S.1 19) (S.2.2.1 0) (S.2.2.1 6) (S.2.2.1 7) (S.2.2.1 8) u hu) [0, 1, 9, 10, 11] rfl (by decide +kernel) rfl [some 0, some 1, none, none, none, none, none, none, none, some 2, some 3, some 4, none, none, none, none, none, none] rfl (by decide +kernel) rfl
def xm_explained (F : Nat) (S : vS) (v1 : Int32) : Option (Int32 × vS) := (X12_explained F (S.1 0) (S.2.2.1 0) (S.2.2.1 2) (S.2.2.2 1) v1).map fun u => (u.1, (sI S 0 u.2))
set_option maxHeartbeats 8000000 in
set_option maxRecDepth 100000 in
theorem cxm_explained (l : Launch) (E : vE) (F : Nat) (a : Nat → Nat) (S : vS) (v1 : Int32) (r : Int32) (S2 : vS) (h : xm_explained F S v1 = some (r, S2)) : CtI l yX12_explained cX12_explained 5 (some .int) 4 E [.ref (a 0), .int v1] (wf_X12 E a S) (wf_X12 E a S2) r := by
  unfold xm_explained at h
  obtain ⟨u, hu, h2⟩ := mp_some h
  have e1 : _ = r := congrArg Prod.fst h2
  have e2 : _ = S2 := congrArg Prod.snd h2
  rw [← e1, ← e2]
  exact CtI.frame (n1 := 18) (ct_X12_explained l E F (a 0) (a 1) (a 2) (a 3) (a 4) (a 5) (a 6) (a 7) (a 8) (a 9) (a 10) (a 11) (a 12) (a 13) (a 14) (a 15) (a 16) (a 17) (S.1 0) (S.2.1 0) (S.2.1 1) (S.1 1) (S.1 2) (S.1 3) (S.1 4) (S.1 5) (S.1 6) (S.1 7) (S.1 8) (S.1 9) (S.1 10) (S.1 11) (S.1 12) (S.1 13) (S.1 14) (S.1 15) (S.1 16) (S.1 17) (S.1 18) (S.1 19) (S.2.2.1 0) (S.2.2.1 2) (S.2.2.2 1) v1 u hu) [0, 1, 4, 5] rfl (by decide +kernel) rfl [some 0, some 1, none, none, some 2, some 3, none, none, none, none, none, none, none, none, none, none, none, none] rfl (by decide +kernel) rfl
def xm_sure (F : Nat) (S : vS) (v1 : Int32) : Option (Int32 × vS) := (X12_sure F (S.1 0) (S.2.2.1 0) (S.2.2.1 2) (S.2.2.2 1) v1).map fun u => (u.1, (sI S 0 u.2))
set_option maxHeartbeats 8000000 in
set_option maxRecDepth 100000 in
theorem cxm_sure (l : Launch) (E : vE) (F : Nat) (a : Nat → Nat) (S : vS) (v1 : Int32) (r : Int32) (S2 : vS) (h : xm_sure F S v1 = some (r, S2)) : CtI l yX12_sure cX12_sure 5 (some .int) 4 E [.ref (a 0), .int v1] (wf_X12 E a S) (wf_X12 E a S2) r := by
  unfold xm_sure at h
  obtain ⟨u, hu, h2⟩ := mp_some h
  have e1 : _ = r := congrArg Prod.fst h2
  have e2 : _ = S2 := congrArg Prod.snd h2
  rw [← e1, ← e2]
  exact CtI.frame (n1 := 18) (ct_X12_sure l E F (a 0) (a 1) (a 2) (a 3) (a 4) (a 5) (a 6) (a 7) (a 8) (a 9) (a 10) (a 11) (a 12) (a 13) (a 14) (a 15) (a 16) (a 17) (S.1 0) (S.2.1 0) (S.2.1 1) (S.1 1) (S.1 2) (S.1 3) (S.1 4) (S.1 5) (S.1 6) (S.1 7) (S.1 8) (S.1 9) (S.1 10) (S.1 11) (S.1 12) (S.1 13) (S.1 14) (S.1 15) (S.1 16) (S.1 17) (S.1 18) (S.1 19) (S.2.2.1 0) (S.2.2.1 2) (S.2.2.2 1) v1 u hu) [0, 1, 4, 5] rfl (by decide +kernel) rfl [some 0, some 1, none, none, some 2, some 3, none, none, none, none, none, none, none, none, none, none, none, none] rfl (by decide +kernel) rfl
def xm_laws (F : Nat) (S : vS) (v1 : Int32) (v2 : Int32) : Option (Int32 × vS) := (X12_laws F (S.1 0) (S.2.2.1 2) (S.2.2.2 1) v1 v2).map fun u => (u.1, (sI S 0 u.2))
set_option maxHeartbeats 8000000 in
set_option maxRecDepth 100000 in
theorem cxm_laws (l : Launch) (E : vE) (F : Nat) (a : Nat → Nat) (S : vS) (v1 : Int32) (v2 : Int32) (r : Int32) (S2 : vS) (h : xm_laws F S v1 v2 = some (r, S2)) : CtI l yX12_laws cX12_laws 6 (some .int) 2 E [.ref (a 0), .int v1, .int v2] (wf_X12 E a S) (wf_X12 E a S2) r := by
  unfold xm_laws at h
  obtain ⟨u, hu, h2⟩ := mp_some h
  have e1 : _ = r := congrArg Prod.fst h2
  have e2 : _ = S2 := congrArg Prod.snd h2
  rw [← e1, ← e2]
  exact CtI.frame (n1 := 18) (ct_X12_laws l E F (a 0) (a 1) (a 2) (a 3) (a 4) (a 5) (a 6) (a 7) (a 8) (a 9) (a 10) (a 11) (a 12) (a 13) (a 14) (a 15) (a 16) (a 17) (S.1 0) (S.2.1 0) (S.2.1 1) (S.1 1) (S.1 2) (S.1 3) (S.1 4) (S.1 5) (S.1 6) (S.1 7) (S.1 8) (S.1 9) (S.1 10) (S.1 11) (S.1 12) (S.1 13) (S.1 14) (S.1 15) (S.1 16) (S.1 17) (S.1 18) (S.1 19) (S.2.2.1 2) (S.2.2.2 1) v1 v2 u hu) [0, 4, 5] rfl (by decide +kernel) rfl [some 0, none, none, none, some 1, some 2, none, none, none, none, none, none, none, none, none, none, none, none] rfl (by decide +kernel) rfl
def xm_lawFirst (F : Nat) (S : vS) (v1 : Int32) (v2 : Int32) : Option (Int32 × vS) := (X12_lawFirst F (S.1 0) (S.2.2.1 2) (S.2.2.2 1) v1 v2).map fun u => (u.1, (sI S 0 u.2))
set_option maxHeartbeats 8000000 in
set_option maxRecDepth 100000 in
theorem cxm_lawFirst (l : Launch) (E : vE) (F : Nat) (a : Nat → Nat) (S : vS) (v1 : Int32) (v2 : Int32) (r : Int32) (S2 : vS) (h : xm_lawFirst F S v1 v2 = some (r, S2)) : CtI l yX12_lawFirst cX12_lawFirst 5 (some .int) 2 E [.ref (a 0), .int v1, .int v2] (wf_X12 E a S) (wf_X12 E a S2) r := by
  unfold xm_lawFirst at h
  obtain ⟨u, hu, h2⟩ := mp_some h
  have e1 : _ = r := congrArg Prod.fst h2
  have e2 : _ = S2 := congrArg Prod.snd h2
  rw [← e1, ← e2]
  exact CtI.frame (n1 := 18) (ct_X12_lawFirst l E F (a 0) (a 1) (a 2) (a 3) (a 4) (a 5) (a 6) (a 7) (a 8) (a 9) (a 10) (a 11) (a 12) (a 13) (a 14) (a 15) (a 16) (a 17) (S.1 0) (S.2.1 0) (S.2.1 1) (S.1 1) (S.1 2) (S.1 3) (S.1 4) (S.1 5) (S.1 6) (S.1 7) (S.1 8) (S.1 9) (S.1 10) (S.1 11) (S.1 12) (S.1 13) (S.1 14) (S.1 15) (S.1 16) (S.1 17) (S.1 18) (S.1 19) (S.2.2.1 2) (S.2.2.2 1) v1 v2 u hu) [0, 4, 5] rfl (by decide +kernel) rfl [some 0, none, none, none, some 1, some 2, none, none, none, none, none, none, none, none, none, none, none, none] rfl (by decide +kernel) rfl
def xm_guard (F : Nat) (S : vS) : Option (Int32 × vS) := (X12_guard F (S.1 0) (S.2.2.1 0)).map fun u => (u.1, (sI S 0 u.2))
set_option maxHeartbeats 8000000 in
set_option maxRecDepth 100000 in
theorem cxm_guard (l : Launch) (E : vE) (F : Nat) (a : Nat → Nat) (S : vS) (r : Int32) (S2 : vS) (h : xm_guard F S = some (r, S2)) : CtI l yX12_guard cX12_guard 1 (some .int) 5 E [.ref (a 0)] (wf_X12 E a S) (wf_X12 E a S2) r := by
  unfold xm_guard at h
  obtain ⟨u, hu, h2⟩ := mp_some h
  have e1 : _ = r := congrArg Prod.fst h2
  have e2 : _ = S2 := congrArg Prod.snd h2
  rw [← e1, ← e2]
  exact CtI.frame (n1 := 18) (ct_X12_guard l E F (a 0) (a 1) (a 2) (a 3) (a 4) (a 5) (a 6) (a 7) (a 8) (a 9) (a 10) (a 11) (a 12) (a 13) (a 14) (a 15) (a 16) (a 17) (S.1 0) (S.2.1 0) (S.2.1 1) (S.1 1) (S.1 2) (S.1 3) (S.1 4) (S.1 5) (S.1 6) (S.1 7) (S.1 8) (S.1 9) (S.1 10) (S.1 11) (S.1 12) (S.1 13) (S.1 14) (S.1 15) (S.1 16) (S.1 17) (S.1 18) (S.1 19) (S.2.2.1 0) u hu) [0, 1] rfl (by decide +kernel) rfl [some 0, some 1, none, none, none, none, none, none, none, none, none, none, none, none, none, none, none, none] rfl (by decide +kernel) rfl
def xm_guardLeft (F : Nat) (S : vS) : Option (Int32 × vS) := (X12_guardLeft F (S.1 0) (S.2.2.1 0)).map fun u => (u.1, (sI S 0 u.2))
set_option maxHeartbeats 8000000 in
set_option maxRecDepth 100000 in
theorem cxm_guardLeft (l : Launch) (E : vE) (F : Nat) (a : Nat → Nat) (S : vS) (r : Int32) (S2 : vS) (h : xm_guardLeft F S = some (r, S2)) : CtI l yX12_guardLeft cX12_guardLeft 2 (some .int) 5 E [.ref (a 0)] (wf_X12 E a S) (wf_X12 E a S2) r := by
  unfold xm_guardLeft at h
  obtain ⟨u, hu, h2⟩ := mp_some h
  have e1 : _ = r := congrArg Prod.fst h2
  have e2 : _ = S2 := congrArg Prod.snd h2
  rw [← e1, ← e2]
  exact CtI.frame (n1 := 18) (ct_X12_guardLeft l E F (a 0) (a 1) (a 2) (a 3) (a 4) (a 5) (a 6) (a 7) (a 8) (a 9) (a 10) (a 11) (a 12) (a 13) (a 14) (a 15) (a 16) (a 17) (S.1 0) (S.2.1 0) (S.2.1 1) (S.1 1) (S.1 2) (S.1 3) (S.1 4) (S.1 5) (S.1 6) (S.1 7) (S.1 8) (S.1 9) (S.1 10) (S.1 11) (S.1 12) (S.1 13) (S.1 14) (S.1 15) (S.1 16) (S.1 17) (S.1 18) (S.1 19) (S.2.2.1 0) u hu) [0, 1] rfl (by decide +kernel) rfl [some 0, some 1, none, none, none, none, none, none, none, none, none, none, none, none, none, none, none, none] rfl (by decide +kernel) rfl
def xm_game (F : Nat) (S : vS) (v1 : Int32) (v2 : Int32) : Option (Int32 × vS) := (X12_game F (S.1 0) (S.1 15) (S.2.2.1 0) (S.2.2.1 9) (S.2.2.1 10) v1 v2).map fun u => (u.1, (sA (sA (sI (sI S 0 u.2.1) 15 u.2.2.1) 9 u.2.2.2.1) 10 u.2.2.2.2))
set_option maxHeartbeats 8000000 in
set_option maxRecDepth 100000 in
theorem cxm_game (l : Launch) (E : vE) (F : Nat) (a : Nat → Nat) (S : vS) (v1 : Int32) (v2 : Int32) (r : Int32) (S2 : vS) (h : xm_game F S v1 v2 = some (r, S2)) : CtI l yX12_game cX12_game 3 (some .int) 6 E [.ref (a 0), .int v1, .int v2] (wf_X12 E a S) (wf_X12 E a S2) r := by
  unfold xm_game at h
  obtain ⟨u, hu, h2⟩ := mp_some h
  have e1 : _ = r := congrArg Prod.fst h2
  have e2 : _ = S2 := congrArg Prod.snd h2
  rw [← e1, ← e2]
  exact CtI.frame (n1 := 18) (ct_X12_game l E F (a 0) (a 1) (a 2) (a 3) (a 4) (a 5) (a 6) (a 7) (a 8) (a 9) (a 10) (a 11) (a 12) (a 13) (a 14) (a 15) (a 16) (a 17) (S.1 0) (S.2.1 0) (S.2.1 1) (S.1 1) (S.1 2) (S.1 3) (S.1 4) (S.1 5) (S.1 6) (S.1 7) (S.1 8) (S.1 9) (S.1 10) (S.1 11) (S.1 12) (S.1 13) (S.1 14) (S.1 15) (S.1 16) (S.1 17) (S.1 18) (S.1 19) (S.2.2.1 0) (S.2.2.1 9) (S.2.2.1 10) v1 v2 u hu) [0, 1, 12, 13] rfl (by decide +kernel) rfl [some 0, some 1, none, none, none, none, none, none, none, none, none, none, some 2, some 3, none, none, none, none] rfl (by decide +kernel) rfl
def xm_moveOf (F : Nat) (S : vS) (v1 : Int32) (v2 : Int32) : Option (Int32 × vS) := (X12_moveOf F (S.1 0) (S.1 15) (S.2.2.1 0) (S.2.2.1 9) (S.2.2.1 10) v1 v2).map fun u => (u.1, (sA (sA (sI (sI S 0 u.2.1) 15 u.2.2.1) 9 u.2.2.2.1) 10 u.2.2.2.2))
set_option maxHeartbeats 8000000 in
set_option maxRecDepth 100000 in
theorem cxm_moveOf (l : Launch) (E : vE) (F : Nat) (a : Nat → Nat) (S : vS) (v1 : Int32) (v2 : Int32) (r : Int32) (S2 : vS) (h : xm_moveOf F S v1 v2 = some (r, S2)) : CtI l yX12_moveOf cX12_moveOf 3 (some .int) 6 E [.ref (a 0), .int v1, .int v2] (wf_X12 E a S) (wf_X12 E a S2) r := by
  unfold xm_moveOf at h
  obtain ⟨u, hu, h2⟩ := mp_some h
  have e1 : _ = r := congrArg Prod.fst h2
  have e2 : _ = S2 := congrArg Prod.snd h2
  rw [← e1, ← e2]
  exact CtI.frame (n1 := 18) (ct_X12_moveOf l E F (a 0) (a 1) (a 2) (a 3) (a 4) (a 5) (a 6) (a 7) (a 8) (a 9) (a 10) (a 11) (a 12) (a 13) (a 14) (a 15) (a 16) (a 17) (S.1 0) (S.2.1 0) (S.2.1 1) (S.1 1) (S.1 2) (S.1 3) (S.1 4) (S.1 5) (S.1 6) (S.1 7) (S.1 8) (S.1 9) (S.1 10) (S.1 11) (S.1 12) (S.1 13) (S.1 14) (S.1 15) (S.1 16) (S.1 17) (S.1 18) (S.1 19) (S.2.2.1 0) (S.2.2.1 9) (S.2.2.1 10) v1 v2 u hu) [0, 1, 12, 13] rfl (by decide +kernel) rfl [some 0, some 1, none, none, none, none, none, none, none, none, none, none, some 2, some 3, none, none, none, none] rfl (by decide +kernel) rfl
def xm_falls (F : Nat) (S : vS) (v1 : Int32) : Option (Int32 × vS) := (X12_falls F (S.1 0) (S.2.1 0) (S.2.1 1) (S.2.2.1 0) (S.2.2.2 2) v1).map fun u => (u.1, (sB (sJ (sJ (sI S 0 u.2.1) 0 u.2.2.1) 1 u.2.2.2.1) 2 u.2.2.2.2))
set_option maxHeartbeats 8000000 in
set_option maxRecDepth 100000 in
theorem cxm_falls (l : Launch) (E : vE) (F : Nat) (a : Nat → Nat) (S : vS) (v1 : Int32) (r : Int32) (S2 : vS) (h : xm_falls F S v1 = some (r, S2)) : CtI l yX12_falls cX12_falls 8 (some .boolean) 4 E [.ref (a 0), .int v1] (wf_X12 E a S) (wf_X12 E a S2) r := by
  unfold xm_falls at h
  obtain ⟨u, hu, h2⟩ := mp_some h
  have e1 : _ = r := congrArg Prod.fst h2
  have e2 : _ = S2 := congrArg Prod.snd h2
  rw [← e1, ← e2]
  exact CtI.frame (n1 := 18) (ct_X12_falls l E F (a 0) (a 1) (a 2) (a 3) (a 4) (a 5) (a 6) (a 7) (a 8) (a 9) (a 10) (a 11) (a 12) (a 13) (a 14) (a 15) (a 16) (a 17) (S.1 0) (S.2.1 0) (S.2.1 1) (S.1 1) (S.1 2) (S.1 3) (S.1 4) (S.1 5) (S.1 6) (S.1 7) (S.1 8) (S.1 9) (S.1 10) (S.1 11) (S.1 12) (S.1 13) (S.1 14) (S.1 15) (S.1 16) (S.1 17) (S.1 18) (S.1 19) (S.2.2.1 0) (S.2.2.2 2) v1 u hu) [0, 1, 14] rfl (by decide +kernel) rfl [some 0, some 1, none, none, none, none, none, none, none, none, none, none, none, none, some 2, none, none, none] rfl (by decide +kernel) rfl
def xm_copyStanding (F : Nat) (S : vS) (v1 : Int32) : Option (Int32 × vS) := (X12_copyStanding F (S.1 0) (S.2.2.1 0) (S.2.2.1 1) (S.2.2.1 2) (S.2.2.2 1) v1).map fun u => (u.1, (sB (sI S 0 u.2.1) 1 u.2.2))
set_option maxHeartbeats 8000000 in
set_option maxRecDepth 100000 in
theorem cxm_copyStanding (l : Launch) (E : vE) (F : Nat) (a : Nat → Nat) (S : vS) (v1 : Int32) (r : Int32) (S2 : vS) (h : xm_copyStanding F S v1 = some (r, S2)) : CtI l yX12_copyStanding cX12_copyStanding 3 (some .int) 3 E [.ref (a 0), .int v1] (wf_X12 E a S) (wf_X12 E a S2) r := by
  unfold xm_copyStanding at h
  obtain ⟨u, hu, h2⟩ := mp_some h
  have e1 : _ = r := congrArg Prod.fst h2
  have e2 : _ = S2 := congrArg Prod.snd h2
  rw [← e1, ← e2]
  exact CtI.frame (n1 := 18) (ct_X12_copyStanding l E F (a 0) (a 1) (a 2) (a 3) (a 4) (a 5) (a 6) (a 7) (a 8) (a 9) (a 10) (a 11) (a 12) (a 13) (a 14) (a 15) (a 16) (a 17) (S.1 0) (S.2.1 0) (S.2.1 1) (S.1 1) (S.1 2) (S.1 3) (S.1 4) (S.1 5) (S.1 6) (S.1 7) (S.1 8) (S.1 9) (S.1 10) (S.1 11) (S.1 12) (S.1 13) (S.1 14) (S.1 15) (S.1 16) (S.1 17) (S.1 18) (S.1 19) (S.2.2.1 0) (S.2.2.1 1) (S.2.2.1 2) (S.2.2.2 1) v1 u hu) [0, 1, 3, 4, 5] rfl (by decide +kernel) rfl [some 0, some 1, none, some 2, some 3, some 4, none, none, none, none, none, none, none, none, none, none, none, none] rfl (by decide +kernel) rfl
def xm_live (F : Nat) (S : vS) (v1 : Int32) : Option (Int32 × vS) := (X12_live F (S.1 0) (S.1 16) (S.1 17) (S.1 18) (S.2.2.1 0) (S.2.2.1 6) (S.2.2.1 11) (S.2.2.1 12) (S.2.2.1 13) v1).map fun u => (u.1, (sA (sA (sA (sA (sA (sI (sI (sI (sI S 0 u.2.1) 16 u.2.2.1) 17 u.2.2.2.1) 18 u.2.2.2.2.1) 0 u.2.2.2.2.2.1) 6 u.2.2.2.2.2.2.1) 11 u.2.2.2.2.2.2.2.1) 12 u.2.2.2.2.2.2.2.2.1) 13 u.2.2.2.2.2.2.2.2.2))
set_option maxHeartbeats 8000000 in
set_option maxRecDepth 100000 in
theorem cxm_live (l : Launch) (E : vE) (F : Nat) (a : Nat → Nat) (S : vS) (v1 : Int32) (r : Int32) (S2 : vS) (h : xm_live F S v1 = some (r, S2)) : CtI l yX12_live cX12_live 3 (some .int) 11 E [.ref (a 0), .int v1] (wf_X12 E a S) (wf_X12 E a S2) r := by
  unfold xm_live at h
  obtain ⟨u, hu, h2⟩ := mp_some h
  have e1 : _ = r := congrArg Prod.fst h2
  have e2 : _ = S2 := congrArg Prod.snd h2
  rw [← e1, ← e2]
  exact CtI.frame (n1 := 18) (ct_X12_live l E F (a 0) (a 1) (a 2) (a 3) (a 4) (a 5) (a 6) (a 7) (a 8) (a 9) (a 10) (a 11) (a 12) (a 13) (a 14) (a 15) (a 16) (a 17) (S.1 0) (S.2.1 0) (S.2.1 1) (S.1 1) (S.1 2) (S.1 3) (S.1 4) (S.1 5) (S.1 6) (S.1 7) (S.1 8) (S.1 9) (S.1 10) (S.1 11) (S.1 12) (S.1 13) (S.1 14) (S.1 15) (S.1 16) (S.1 17) (S.1 18) (S.1 19) (S.2.2.1 0) (S.2.2.1 6) (S.2.2.1 11) (S.2.2.1 12) (S.2.2.1 13) v1 u hu) [0, 1, 9, 15, 16, 17] rfl (by decide +kernel) rfl [some 0, some 1, none, none, none, none, none, none, none, some 2, none, none, none, none, none, some 3, some 4, some 5] rfl (by decide +kernel) rfl
def xm_lived (F : Nat) (S : vS) (v1 : Int32) : Option (Int32 × vS) := (X12_lived (S.1 0) (S.1 18) (S.2.2.1 13) v1).map fun u => (u.1, (sI S 0 u.2))
set_option maxHeartbeats 8000000 in
set_option maxRecDepth 100000 in
theorem cxm_lived (l : Launch) (E : vE) (F : Nat) (a : Nat → Nat) (S : vS) (v1 : Int32) (r : Int32) (S2 : vS) (h : xm_lived F S v1 = some (r, S2)) : CtI l yX12_lived cX12_lived 2 (some .int) 1 E [.ref (a 0), .int v1] (wf_X12 E a S) (wf_X12 E a S2) r := by
  unfold xm_lived at h
  obtain ⟨u, hu, h2⟩ := mp_some h
  have e1 : _ = r := congrArg Prod.fst h2
  have e2 : _ = S2 := congrArg Prod.snd h2
  rw [← e1, ← e2]
  exact CtI.frame (n1 := 18) (ct_X12_lived l E (a 0) (a 1) (a 2) (a 3) (a 4) (a 5) (a 6) (a 7) (a 8) (a 9) (a 10) (a 11) (a 12) (a 13) (a 14) (a 15) (a 16) (a 17) (S.1 0) (S.2.1 0) (S.2.1 1) (S.1 1) (S.1 2) (S.1 3) (S.1 4) (S.1 5) (S.1 6) (S.1 7) (S.1 8) (S.1 9) (S.1 10) (S.1 11) (S.1 12) (S.1 13) (S.1 14) (S.1 15) (S.1 16) (S.1 17) (S.1 18) (S.1 19) (S.2.2.1 13) v1 u hu) [0, 17] rfl (by decide +kernel) rfl [some 0, none, none, none, none, none, none, none, none, none, none, none, none, none, none, none, none, some 1] rfl (by decide +kernel) rfl
def xm_mean (F : Nat) (S : vS) (v1 : Int32) (v2 : Int32) : Option (Int32 × vS) := (X12_mean F (S.1 0) (S.2.1 0) (S.2.1 1) (S.1 16) (S.1 17) (S.2.2.1 0) (S.2.2.1 6) (S.2.2.1 11) (S.2.2.1 12) v1 v2).map fun u => (u.1, (sA (sA (sA (sA (sI (sI (sJ (sJ (sI S 0 u.2.1) 0 u.2.2.1) 1 u.2.2.2.1) 16 u.2.2.2.2.1) 17 u.2.2.2.2.2.1) 0 u.2.2.2.2.2.2.1) 6 u.2.2.2.2.2.2.2.1) 11 u.2.2.2.2.2.2.2.2.1) 12 u.2.2.2.2.2.2.2.2.2))
set_option maxHeartbeats 8000000 in
set_option maxRecDepth 100000 in
theorem cxm_mean (l : Launch) (E : vE) (F : Nat) (a : Nat → Nat) (S : vS) (v1 : Int32) (v2 : Int32) (r : Int32) (S2 : vS) (h : xm_mean F S v1 v2 = some (r, S2)) : CtI l yX12_mean cX12_mean 6 (some .boolean) 11 E [.ref (a 0), .int v1, .int v2] (wf_X12 E a S) (wf_X12 E a S2) r := by
  unfold xm_mean at h
  obtain ⟨u, hu, h2⟩ := mp_some h
  have e1 : _ = r := congrArg Prod.fst h2
  have e2 : _ = S2 := congrArg Prod.snd h2
  rw [← e1, ← e2]
  exact CtI.frame (n1 := 18) (ct_X12_mean l E F (a 0) (a 1) (a 2) (a 3) (a 4) (a 5) (a 6) (a 7) (a 8) (a 9) (a 10) (a 11) (a 12) (a 13) (a 14) (a 15) (a 16) (a 17) (S.1 0) (S.2.1 0) (S.2.1 1) (S.1 1) (S.1 2) (S.1 3) (S.1 4) (S.1 5) (S.1 6) (S.1 7) (S.1 8) (S.1 9) (S.1 10) (S.1 11) (S.1 12) (S.1 13) (S.1 14) (S.1 15) (S.1 16) (S.1 17) (S.1 18) (S.1 19) (S.2.2.1 0) (S.2.2.1 6) (S.2.2.1 11) (S.2.2.1 12) v1 v2 u hu) [0, 1, 9, 15, 16] rfl (by decide +kernel) rfl [some 0, some 1, none, none, none, none, none, none, none, some 2, none, none, none, none, none, some 3, some 4, none] rfl (by decide +kernel) rfl
def xm_mark (F : Nat) (S : vS) : Option (Int32 × vS) := (X12_mark F (S.1 0) (S.1 19) (S.2.2.1 0) (S.2.2.2 0)).map fun u => (u.1, (sB (sA (sI (sI S 0 u.2.1) 19 u.2.2.1) 0 u.2.2.2.1) 0 u.2.2.2.2))
set_option maxHeartbeats 8000000 in
set_option maxRecDepth 100000 in
theorem cxm_mark (l : Launch) (E : vE) (F : Nat) (a : Nat → Nat) (S : vS) (r : Int32) (S2 : vS) (h : xm_mark F S = some (r, S2)) : CtI l yX12_mark cX12_mark 1 (some .int) 1 E [.ref (a 0)] (wf_X12 E a S) (wf_X12 E a S2) r := by
  unfold xm_mark at h
  obtain ⟨u, hu, h2⟩ := mp_some h
  have e1 : _ = r := congrArg Prod.fst h2
  have e2 : _ = S2 := congrArg Prod.snd h2
  rw [← e1, ← e2]
  exact CtI.frame (n1 := 18) (ct_X12_mark l E F (a 0) (a 1) (a 2) (a 3) (a 4) (a 5) (a 6) (a 7) (a 8) (a 9) (a 10) (a 11) (a 12) (a 13) (a 14) (a 15) (a 16) (a 17) (S.1 0) (S.2.1 0) (S.2.1 1) (S.1 1) (S.1 2) (S.1 3) (S.1 4) (S.1 5) (S.1 6) (S.1 7) (S.1 8) (S.1 9) (S.1 10) (S.1 11) (S.1 12) (S.1 13) (S.1 14) (S.1 15) (S.1 16) (S.1 17) (S.1 18) (S.1 19) (S.2.2.1 0) (S.2.2.2 0) u hu) [0, 1, 2] rfl (by decide +kernel) rfl [some 0, some 1, some 2, none, none, none, none, none, none, none, none, none, none, none, none, none, none, none] rfl (by decide +kernel) rfl
def xm_undo (F : Nat) (S : vS) : Option (Int32 × vS) := (X12_undo F (S.1 0) (S.1 19) (S.2.2.1 0) (S.2.2.2 0)).map fun u => (u.1, (sB (sA (sI (sI S 0 u.2.1) 19 u.2.2.1) 0 u.2.2.2.1) 0 u.2.2.2.2))
set_option maxHeartbeats 8000000 in
set_option maxRecDepth 100000 in
theorem cxm_undo (l : Launch) (E : vE) (F : Nat) (a : Nat → Nat) (S : vS) (r : Int32) (S2 : vS) (h : xm_undo F S = some (r, S2)) : CtI l yX12_undo cX12_undo 1 (some .int) 1 E [.ref (a 0)] (wf_X12 E a S) (wf_X12 E a S2) r := by
  unfold xm_undo at h
  obtain ⟨u, hu, h2⟩ := mp_some h
  have e1 : _ = r := congrArg Prod.fst h2
  have e2 : _ = S2 := congrArg Prod.snd h2
  rw [← e1, ← e2]
  exact CtI.frame (n1 := 18) (ct_X12_undo l E F (a 0) (a 1) (a 2) (a 3) (a 4) (a 5) (a 6) (a 7) (a 8) (a 9) (a 10) (a 11) (a 12) (a 13) (a 14) (a 15) (a 16) (a 17) (S.1 0) (S.2.1 0) (S.2.1 1) (S.1 1) (S.1 2) (S.1 3) (S.1 4) (S.1 5) (S.1 6) (S.1 7) (S.1 8) (S.1 9) (S.1 10) (S.1 11) (S.1 12) (S.1 13) (S.1 14) (S.1 15) (S.1 16) (S.1 17) (S.1 18) (S.1 19) (S.2.2.1 0) (S.2.2.2 0) u hu) [0, 1, 2] rfl (by decide +kernel) rfl [some 0, some 1, some 2, none, none, none, none, none, none, none, none, none, none, none, none, none, none, none] rfl (by decide +kernel) rfl
