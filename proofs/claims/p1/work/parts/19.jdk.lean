section P19JDK
abbrev rm_J9_min_7cf53 : Room := { frames := 8, cells := 0, slots := 0, locals := 150 }
def f_J9_min_7cf53_10  (S : mS) (s0 : Int32) : Option (Rs Int32) :=
  some (.inl s0, S)
set_option maxHeartbeats 2000000 in
set_option maxRecDepth 100000 in
theorem t_J9_min_7cf53_10 {l : Launch} (hls : l.stackTraces = false) {C : cT} (hC : CX C cJ9_min_7cf53 2 yJ9_min_7cf53 rm_J9_min_7cf53) (hl : C.2.1 = l) {S0 : mS} (hE : CE C S0 (Option.some Jvm.ClassFile.FieldType.int) []) {o : Rs Int32} {S : mS} {s0 : Int32} (h : f_J9_min_7cf53_10  S s0 = some o) : XX C 2 (QQ C (fun r : Int32 => some (.int r)) S0 o) (0) (0) S 10 [] [.int s0] := by
  unfold f_J9_min_7cf53_10 at h
  exact x_ireturn (pc := 10) hC hE dJ9_min_7cf53_10 (so h) (Nat.le_of_ble_eq_true rfl) (Nat.le_of_ble_eq_true rfl)
def f_J9_min_7cf53 (S : mS) (a0 : Int32) (a1 : Int32) : Option (Rs Int32) :=
  if a1 < a0 then (f_J9_min_7cf53_10  S a1) else (f_J9_min_7cf53_10  S a0)
set_option maxHeartbeats 2000000 in
set_option maxRecDepth 100000 in
theorem t_J9_min_7cf53 {l : Launch} (hls : l.stackTraces = false) {C : cT} (hC : CX C cJ9_min_7cf53 2 yJ9_min_7cf53 rm_J9_min_7cf53) (hl : C.2.1 = l) {S0 : mS} (hE : CE C S0 (Option.some Jvm.ClassFile.FieldType.int) []) {o : Rs Int32} {S : mS} {a0 : Int32} {a1 : Int32} (h : f_J9_min_7cf53 S a0 a1 = some o) : XX C 2 (QQ C (fun r : Int32 => some (.int r)) S0 o) 0 0 S 0 [(0, .int a0), (1, .int a1)] [] := by
  unfold f_J9_min_7cf53 at h
  refine x_iload_n (pc := 0) hC 0 dJ9_min_7cf53_0 rfl rfl ?_
  refine x_iload_n (pc := 1) hC 1 dJ9_min_7cf53_1 rfl rfl ?_
  refine x_icmp_gt (pc := 2) hC 9 dJ9_min_7cf53_2 (by decide) (fun c1 => ?_) (fun c1 => ?_)
  · rw [if_pos c1] at h
    refine x_iload_n (pc := 9) hC 1 dJ9_min_7cf53_9 rfl rfl ?_
    refine x_pick [] rfl ?_
    exact t_J9_min_7cf53_10 hls hC hl hE h
  · rw [if_neg c1] at h
    refine x_iload_n (pc := 5) hC 0 dJ9_min_7cf53_5 rfl rfl ?_
    refine x_goto (pc := 6) hC 10 dJ9_min_7cf53_6 (by decide) ?_
    refine x_pick [] rfl ?_
    exact t_J9_min_7cf53_10 hls hC hl hE h
theorem c_J9_min_7cf53 (l : Launch) (hls : l.stackTraces = false) {S : mS} {a0 : Int32} {a1 : Int32} {o : Rs Int32} (h : f_J9_min_7cf53 S a0 a1 = some o) : CT (fun r : Int32 => some (.int r)) l yJ9_min_7cf53 (.code yJ9_min_7cf53 cJ9_min_7cf53 2 (Option.some Jvm.ClassFile.FieldType.int)) rm_J9_min_7cf53 S [.int a0, .int a1] o := ct_ofF (by decide +kernel) hls (Nat.le_of_ble_eq_true rfl) (fun C hl hC hE => t_J9_min_7cf53 hls hC hl hE h)
abbrev rm_J9_max_f86c9 : Room := { frames := 8, cells := 0, slots := 0, locals := 150 }
def f_J9_max_f86c9_11  (S : mS) (s0 : Int64) : Option (Rs Int64) :=
  some (.inl s0, S)
set_option maxHeartbeats 2000000 in
set_option maxRecDepth 100000 in
theorem t_J9_max_f86c9_11 {l : Launch} (hls : l.stackTraces = false) {C : cT} (hC : CX C cJ9_max_f86c9 4 yJ9_max_f86c9 rm_J9_max_f86c9) (hl : C.2.1 = l) {S0 : mS} (hE : CE C S0 (Option.some Jvm.ClassFile.FieldType.long) []) {o : Rs Int64} {S : mS} {s0 : Int64} (h : f_J9_max_f86c9_11  S s0 = some o) : XX C 4 (QQ C (fun r : Int64 => some (.long r)) S0 o) (0) (0) S 11 [] [.long s0] := by
  unfold f_J9_max_f86c9_11 at h
  exact x_lreturn (pc := 11) hC hE dJ9_max_f86c9_11 (so h) (Nat.le_of_ble_eq_true rfl) (Nat.le_of_ble_eq_true rfl)
def f_J9_max_f86c9 (S : mS) (a0 : Int64) (a2 : Int64) : Option (Rs Int64) :=
  lt9 (lg_cmp a0 a2) fun x1 => if x1 < 0 then (f_J9_max_f86c9_11  S a2) else (f_J9_max_f86c9_11  S a0)
set_option maxHeartbeats 2000000 in
set_option maxRecDepth 100000 in
theorem t_J9_max_f86c9 {l : Launch} (hls : l.stackTraces = false) {C : cT} (hC : CX C cJ9_max_f86c9 4 yJ9_max_f86c9 rm_J9_max_f86c9) (hl : C.2.1 = l) {S0 : mS} (hE : CE C S0 (Option.some Jvm.ClassFile.FieldType.long) []) {o : Rs Int64} {S : mS} {a0 : Int64} {a2 : Int64} (h : f_J9_max_f86c9 S a0 a2 = some o) : XX C 4 (QQ C (fun r : Int64 => some (.long r)) S0 o) 0 0 S 0 [(0, .long a0), (2, .long a2)] [] := by
  unfold f_J9_max_f86c9 at h
  refine x_lload_n (pc := 0) hC 0 dJ9_max_f86c9_0 rfl rfl ?_
  refine x_lload_n (pc := 1) hC 1 dJ9_max_f86c9_1 rfl rfl ?_
  refine x_lcmpv (pc := 2) hC dJ9_max_f86c9_2 (fun x1 hx1 => ?_)
  replace h := lt_x hx1 h
  refine x_if_lt (pc := 3) hC 10 dJ9_max_f86c9_3 (by decide) (fun c2 => ?_) (fun c2 => ?_)
  · rw [if_pos c2] at h
    refine x_lload_n (pc := 10) hC 1 dJ9_max_f86c9_10 rfl rfl ?_
    refine x_pick [] rfl ?_
    exact t_J9_max_f86c9_11 hls hC hl hE h
  · rw [if_neg c2] at h
    refine x_lload_n (pc := 6) hC 0 dJ9_max_f86c9_6 rfl rfl ?_
    refine x_goto (pc := 7) hC 11 dJ9_max_f86c9_7 (by decide) ?_
    refine x_pick [] rfl ?_
    exact t_J9_max_f86c9_11 hls hC hl hE h
theorem c_J9_max_f86c9 (l : Launch) (hls : l.stackTraces = false) {S : mS} {a0 : Int64} {a2 : Int64} {o : Rs Int64} (h : f_J9_max_f86c9 S a0 a2 = some o) : CT (fun r : Int64 => some (.long r)) l yJ9_max_f86c9 (.code yJ9_max_f86c9 cJ9_max_f86c9 4 (Option.some Jvm.ClassFile.FieldType.long)) rm_J9_max_f86c9 S [.long a0, .long a2] o := ct_ofF (by decide +kernel) hls (Nat.le_of_ble_eq_true rfl) (fun C hl hC hE => t_J9_max_f86c9 hls hC hl hE h)
abbrev rm_J9_min_f86c9 : Room := { frames := 8, cells := 0, slots := 0, locals := 150 }
def f_J9_min_f86c9_11  (S : mS) (s0 : Int64) : Option (Rs Int64) :=
  some (.inl s0, S)
set_option maxHeartbeats 2000000 in
set_option maxRecDepth 100000 in
theorem t_J9_min_f86c9_11 {l : Launch} (hls : l.stackTraces = false) {C : cT} (hC : CX C cJ9_min_f86c9 4 yJ9_min_f86c9 rm_J9_min_f86c9) (hl : C.2.1 = l) {S0 : mS} (hE : CE C S0 (Option.some Jvm.ClassFile.FieldType.long) []) {o : Rs Int64} {S : mS} {s0 : Int64} (h : f_J9_min_f86c9_11  S s0 = some o) : XX C 4 (QQ C (fun r : Int64 => some (.long r)) S0 o) (0) (0) S 11 [] [.long s0] := by
  unfold f_J9_min_f86c9_11 at h
  exact x_lreturn (pc := 11) hC hE dJ9_min_f86c9_11 (so h) (Nat.le_of_ble_eq_true rfl) (Nat.le_of_ble_eq_true rfl)
def f_J9_min_f86c9 (S : mS) (a0 : Int64) (a2 : Int64) : Option (Rs Int64) :=
  lt9 (lg_cmp a0 a2) fun x1 => if 0 < x1 then (f_J9_min_f86c9_11  S a2) else (f_J9_min_f86c9_11  S a0)
set_option maxHeartbeats 2000000 in
set_option maxRecDepth 100000 in
theorem t_J9_min_f86c9 {l : Launch} (hls : l.stackTraces = false) {C : cT} (hC : CX C cJ9_min_f86c9 4 yJ9_min_f86c9 rm_J9_min_f86c9) (hl : C.2.1 = l) {S0 : mS} (hE : CE C S0 (Option.some Jvm.ClassFile.FieldType.long) []) {o : Rs Int64} {S : mS} {a0 : Int64} {a2 : Int64} (h : f_J9_min_f86c9 S a0 a2 = some o) : XX C 4 (QQ C (fun r : Int64 => some (.long r)) S0 o) 0 0 S 0 [(0, .long a0), (2, .long a2)] [] := by
  unfold f_J9_min_f86c9 at h
  refine x_lload_n (pc := 0) hC 0 dJ9_min_f86c9_0 rfl rfl ?_
  refine x_lload_n (pc := 1) hC 1 dJ9_min_f86c9_1 rfl rfl ?_
  refine x_lcmpv (pc := 2) hC dJ9_min_f86c9_2 (fun x1 hx1 => ?_)
  replace h := lt_x hx1 h
  refine x_if_gt (pc := 3) hC 10 dJ9_min_f86c9_3 (by decide) (fun c2 => ?_) (fun c2 => ?_)
  · rw [if_pos c2] at h
    refine x_lload_n (pc := 10) hC 1 dJ9_min_f86c9_10 rfl rfl ?_
    refine x_pick [] rfl ?_
    exact t_J9_min_f86c9_11 hls hC hl hE h
  · rw [if_neg c2] at h
    refine x_lload_n (pc := 6) hC 0 dJ9_min_f86c9_6 rfl rfl ?_
    refine x_goto (pc := 7) hC 11 dJ9_min_f86c9_7 (by decide) ?_
    refine x_pick [] rfl ?_
    exact t_J9_min_f86c9_11 hls hC hl hE h
theorem c_J9_min_f86c9 (l : Launch) (hls : l.stackTraces = false) {S : mS} {a0 : Int64} {a2 : Int64} {o : Rs Int64} (h : f_J9_min_f86c9 S a0 a2 = some o) : CT (fun r : Int64 => some (.long r)) l yJ9_min_f86c9 (.code yJ9_min_f86c9 cJ9_min_f86c9 4 (Option.some Jvm.ClassFile.FieldType.long)) rm_J9_min_f86c9 S [.long a0, .long a2] o := ct_ofF (by decide +kernel) hls (Nat.le_of_ble_eq_true rfl) (fun C hl hC hE => t_J9_min_f86c9 hls hC hl hE h)
abbrev rm_J9_floorMod_f86c9 : Room := { frames := 8, cells := 0, slots := 0, locals := 150 }
def f_J9_floorMod_f86c9 (S : mS) (a0 : Int64) (a2 : Int64) : Option (Rs Int64) :=
  gd (¬ a2 = 0) (lt9 (a0 - a0 / a2 * a2) fun x1 => none)
set_option maxHeartbeats 2000000 in
set_option maxRecDepth 100000 in
theorem t_J9_floorMod_f86c9 {l : Launch} (hls : l.stackTraces = false) {C : cT} (hC : CX C cJ9_floorMod_f86c9 6 yJ9_floorMod_f86c9 rm_J9_floorMod_f86c9) (hl : C.2.1 = l) {S0 : mS} (hE : CE C S0 (Option.some Jvm.ClassFile.FieldType.long) []) {o : Rs Int64} {S : mS} {a0 : Int64} {a2 : Int64} (h : f_J9_floorMod_f86c9 S a0 a2 = some o) : XX C 6 (QQ C (fun r : Int64 => some (.long r)) S0 o) 0 0 S 0 [(0, .long a0), (2, .long a2)] [] := by
  unfold f_J9_floorMod_f86c9 at h
  refine x_lload_n (pc := 0) hC 0 dJ9_floorMod_f86c9_0 rfl rfl ?_
  refine x_lload_n (pc := 1) hC 1 dJ9_floorMod_f86c9_1 rfl rfl ?_
  obtain ⟨g2, h⟩ := gd_some h
  refine x_lremv (pc := 2) hC dJ9_floorMod_f86c9_2 g2 (fun x1 hx1 => ?_)
  replace h := lt_x hx1 h
  refine x_lstore (pc := 3) hC dJ9_floorMod_f86c9_3 (by decide) (by decide) rfl ?_
  refine x_lload_n (pc := 5) hC 1 dJ9_floorMod_f86c9_5 rfl rfl ?_
  refine x_lload_n (pc := 6) hC 2 dJ9_floorMod_f86c9_6 rfl rfl ?_
  cases h
theorem c_J9_floorMod_f86c9 (l : Launch) (hls : l.stackTraces = false) {S : mS} {a0 : Int64} {a2 : Int64} {o : Rs Int64} (h : f_J9_floorMod_f86c9 S a0 a2 = some o) : CT (fun r : Int64 => some (.long r)) l yJ9_floorMod_f86c9 (.code yJ9_floorMod_f86c9 cJ9_floorMod_f86c9 6 (Option.some Jvm.ClassFile.FieldType.long)) rm_J9_floorMod_f86c9 S [.long a0, .long a2] o := ct_ofF (by decide +kernel) hls (Nat.le_of_ble_eq_true rfl) (fun C hl hC hE => t_J9_floorMod_f86c9 hls hC hl hE h)
abbrev rm_J9_abs_0f7a4 : Room := { frames := 8, cells := 0, slots := 0, locals := 150 }
def f_J9_abs_0f7a4_10  (S : mS) (s0 : Int32) : Option (Rs Int32) :=
  some (.inl s0, S)
set_option maxHeartbeats 2000000 in
set_option maxRecDepth 100000 in
theorem t_J9_abs_0f7a4_10 {l : Launch} (hls : l.stackTraces = false) {C : cT} (hC : CX C cJ9_abs_0f7a4 1 yJ9_abs_0f7a4 rm_J9_abs_0f7a4) (hl : C.2.1 = l) {S0 : mS} (hE : CE C S0 (Option.some Jvm.ClassFile.FieldType.int) []) {o : Rs Int32} {S : mS} {s0 : Int32} (h : f_J9_abs_0f7a4_10  S s0 = some o) : XX C 1 (QQ C (fun r : Int32 => some (.int r)) S0 o) (0) (0) S 10 [] [.int s0] := by
  unfold f_J9_abs_0f7a4_10 at h
  exact x_ireturn (pc := 10) hC hE dJ9_abs_0f7a4_10 (so h) (Nat.le_of_ble_eq_true rfl) (Nat.le_of_ble_eq_true rfl)
def f_J9_abs_0f7a4 (S : mS) (a0 : Int32) : Option (Rs Int32) :=
  if 0 ≤ a0 then (f_J9_abs_0f7a4_10  S a0) else (lt9 (-a0) fun x1 => f_J9_abs_0f7a4_10  S x1)
set_option maxHeartbeats 2000000 in
set_option maxRecDepth 100000 in
theorem t_J9_abs_0f7a4 {l : Launch} (hls : l.stackTraces = false) {C : cT} (hC : CX C cJ9_abs_0f7a4 1 yJ9_abs_0f7a4 rm_J9_abs_0f7a4) (hl : C.2.1 = l) {S0 : mS} (hE : CE C S0 (Option.some Jvm.ClassFile.FieldType.int) []) {o : Rs Int32} {S : mS} {a0 : Int32} (h : f_J9_abs_0f7a4 S a0 = some o) : XX C 1 (QQ C (fun r : Int32 => some (.int r)) S0 o) 0 0 S 0 [(0, .int a0)] [] := by
  unfold f_J9_abs_0f7a4 at h
  refine x_iload_n (pc := 0) hC 0 dJ9_abs_0f7a4_0 rfl rfl ?_
  refine x_if_ge (pc := 1) hC 9 dJ9_abs_0f7a4_1 (by decide) (fun c2 => ?_) (fun c2 => ?_)
  · rw [if_pos c2] at h
    refine x_iload_n (pc := 9) hC 0 dJ9_abs_0f7a4_9 rfl rfl ?_
    refine x_pick [] rfl ?_
    exact t_J9_abs_0f7a4_10 hls hC hl hE h
  · rw [if_neg c2] at h
    refine x_iload_n (pc := 4) hC 0 dJ9_abs_0f7a4_4 rfl rfl ?_
    refine x_inegv (pc := 5) hC dJ9_abs_0f7a4_5 (fun x1 hx1 => ?_)
    replace h := lt_x hx1 h
    refine x_goto (pc := 6) hC 10 dJ9_abs_0f7a4_6 (by decide) ?_
    refine x_pick [] rfl ?_
    exact t_J9_abs_0f7a4_10 hls hC hl hE h
theorem c_J9_abs_0f7a4 (l : Launch) (hls : l.stackTraces = false) {S : mS} {a0 : Int32} {o : Rs Int32} (h : f_J9_abs_0f7a4 S a0 = some o) : CT (fun r : Int32 => some (.int r)) l yJ9_abs_0f7a4 (.code yJ9_abs_0f7a4 cJ9_abs_0f7a4 1 (Option.some Jvm.ClassFile.FieldType.int)) rm_J9_abs_0f7a4 S [.int a0] o := ct_ofF (by decide +kernel) hls (Nat.le_of_ble_eq_true rfl) (fun C hl hC hE => t_J9_abs_0f7a4 hls hC hl hE h)
abbrev rm_J9_max_7cf53 : Room := { frames := 8, cells := 0, slots := 0, locals := 150 }
def f_J9_max_7cf53_10  (S : mS) (s0 : Int32) : Option (Rs Int32) :=
  some (.inl s0, S)
set_option maxHeartbeats 2000000 in
set_option maxRecDepth 100000 in
theorem t_J9_max_7cf53_10 {l : Launch} (hls : l.stackTraces = false) {C : cT} (hC : CX C cJ9_max_7cf53 2 yJ9_max_7cf53 rm_J9_max_7cf53) (hl : C.2.1 = l) {S0 : mS} (hE : CE C S0 (Option.some Jvm.ClassFile.FieldType.int) []) {o : Rs Int32} {S : mS} {s0 : Int32} (h : f_J9_max_7cf53_10  S s0 = some o) : XX C 2 (QQ C (fun r : Int32 => some (.int r)) S0 o) (0) (0) S 10 [] [.int s0] := by
  unfold f_J9_max_7cf53_10 at h
  exact x_ireturn (pc := 10) hC hE dJ9_max_7cf53_10 (so h) (Nat.le_of_ble_eq_true rfl) (Nat.le_of_ble_eq_true rfl)
def f_J9_max_7cf53 (S : mS) (a0 : Int32) (a1 : Int32) : Option (Rs Int32) :=
  if a0 < a1 then (f_J9_max_7cf53_10  S a1) else (f_J9_max_7cf53_10  S a0)
set_option maxHeartbeats 2000000 in
set_option maxRecDepth 100000 in
theorem t_J9_max_7cf53 {l : Launch} (hls : l.stackTraces = false) {C : cT} (hC : CX C cJ9_max_7cf53 2 yJ9_max_7cf53 rm_J9_max_7cf53) (hl : C.2.1 = l) {S0 : mS} (hE : CE C S0 (Option.some Jvm.ClassFile.FieldType.int) []) {o : Rs Int32} {S : mS} {a0 : Int32} {a1 : Int32} (h : f_J9_max_7cf53 S a0 a1 = some o) : XX C 2 (QQ C (fun r : Int32 => some (.int r)) S0 o) 0 0 S 0 [(0, .int a0), (1, .int a1)] [] := by
  unfold f_J9_max_7cf53 at h
  refine x_iload_n (pc := 0) hC 0 dJ9_max_7cf53_0 rfl rfl ?_
  refine x_iload_n (pc := 1) hC 1 dJ9_max_7cf53_1 rfl rfl ?_
  refine x_icmp_lt (pc := 2) hC 9 dJ9_max_7cf53_2 (by decide) (fun c1 => ?_) (fun c1 => ?_)
  · rw [if_pos c1] at h
    refine x_iload_n (pc := 9) hC 1 dJ9_max_7cf53_9 rfl rfl ?_
    refine x_pick [] rfl ?_
    exact t_J9_max_7cf53_10 hls hC hl hE h
  · rw [if_neg c1] at h
    refine x_iload_n (pc := 5) hC 0 dJ9_max_7cf53_5 rfl rfl ?_
    refine x_goto (pc := 6) hC 10 dJ9_max_7cf53_6 (by decide) ?_
    refine x_pick [] rfl ?_
    exact t_J9_max_7cf53_10 hls hC hl hE h
theorem c_J9_max_7cf53 (l : Launch) (hls : l.stackTraces = false) {S : mS} {a0 : Int32} {a1 : Int32} {o : Rs Int32} (h : f_J9_max_7cf53 S a0 a1 = some o) : CT (fun r : Int32 => some (.int r)) l yJ9_max_7cf53 (.code yJ9_max_7cf53 cJ9_max_7cf53 2 (Option.some Jvm.ClassFile.FieldType.int)) rm_J9_max_7cf53 S [.int a0, .int a1] o := ct_ofF (by decide +kernel) hls (Nat.le_of_ble_eq_true rfl) (fun C hl hC hE => t_J9_max_7cf53 hls hC hl hE h)
abbrev rm_J9_floorMod_7cf53 : Room := { frames := 8, cells := 0, slots := 0, locals := 150 }
def f_J9_floorMod_7cf53_18  (S : mS) (a2 : Int32) : Option (Rs Int32) :=
  some (.inl a2, S)
set_option maxHeartbeats 2000000 in
set_option maxRecDepth 100000 in
theorem t_J9_floorMod_7cf53_18 {l : Launch} (hls : l.stackTraces = false) {C : cT} (hC : CX C cJ9_floorMod_7cf53 3 yJ9_floorMod_7cf53 rm_J9_floorMod_7cf53) (hl : C.2.1 = l) {S0 : mS} (hE : CE C S0 (Option.some Jvm.ClassFile.FieldType.int) []) {o : Rs Int32} {S : mS} {a2 : Int32} (h : f_J9_floorMod_7cf53_18  S a2 = some o) : XX C 3 (QQ C (fun r : Int32 => some (.int r)) S0 o) (0) (0) S 18 [(2, .int a2)] [] := by
  unfold f_J9_floorMod_7cf53_18 at h
  refine x_iload_n (pc := 18) hC 0 dJ9_floorMod_7cf53_18 rfl rfl ?_
  exact x_ireturn (pc := 19) hC hE dJ9_floorMod_7cf53_19 (so h) (Nat.le_of_ble_eq_true rfl) (Nat.le_of_ble_eq_true rfl)
def f_J9_floorMod_7cf53 (S : mS) (a0 : Int32) (a1 : Int32) : Option (Rs Int32) :=
  gd (¬ a1 = 0) (lt9 (a0 - a0 / a1 * a1) fun x1 => lt9 (a0 ^^^ a1) fun x3 => if 0 ≤ x3 then (f_J9_floorMod_7cf53_18  S x1) else (if x1 = 0 then (f_J9_floorMod_7cf53_18  S x1) else (lt9 (x1 + a1) fun x4 => some (.inl x4, S))))
set_option maxHeartbeats 2000000 in
set_option maxRecDepth 100000 in
theorem t_J9_floorMod_7cf53 {l : Launch} (hls : l.stackTraces = false) {C : cT} (hC : CX C cJ9_floorMod_7cf53 3 yJ9_floorMod_7cf53 rm_J9_floorMod_7cf53) (hl : C.2.1 = l) {S0 : mS} (hE : CE C S0 (Option.some Jvm.ClassFile.FieldType.int) []) {o : Rs Int32} {S : mS} {a0 : Int32} {a1 : Int32} (h : f_J9_floorMod_7cf53 S a0 a1 = some o) : XX C 3 (QQ C (fun r : Int32 => some (.int r)) S0 o) 0 0 S 0 [(0, .int a0), (1, .int a1)] [] := by
  unfold f_J9_floorMod_7cf53 at h
  refine x_iload_n (pc := 0) hC 0 dJ9_floorMod_7cf53_0 rfl rfl ?_
  refine x_iload_n (pc := 1) hC 1 dJ9_floorMod_7cf53_1 rfl rfl ?_
  obtain ⟨g2, h⟩ := gd_some h
  refine x_iremv (pc := 2) hC dJ9_floorMod_7cf53_2 g2 (fun x1 hx1 => ?_)
  replace h := lt_x hx1 h
  refine x_istore_n (pc := 3) hC dJ9_floorMod_7cf53_3 rfl (by decide) (by decide) rfl ?_
  refine x_iload_n (pc := 4) hC 1 dJ9_floorMod_7cf53_4 rfl rfl ?_
  refine x_iload_n (pc := 5) hC 2 dJ9_floorMod_7cf53_5 rfl rfl ?_
  refine x_ixorv (pc := 6) hC dJ9_floorMod_7cf53_6 (fun x3 hx3 => ?_)
  replace h := lt_x hx3 h
  refine x_if_ge (pc := 7) hC 18 dJ9_floorMod_7cf53_7 (by decide) (fun c6 => ?_) (fun c6 => ?_)
  · rw [if_pos c6] at h
    refine x_pick [0] rfl ?_
    exact t_J9_floorMod_7cf53_18 hls hC hl hE h
  · rw [if_neg c6] at h
    refine x_iload_n (pc := 10) hC 0 dJ9_floorMod_7cf53_10 rfl rfl ?_
    refine x_if_eq (pc := 11) hC 18 dJ9_floorMod_7cf53_11 (by decide) (fun c5 => ?_) (fun c5 => ?_)
    · rw [if_pos c5] at h
      refine x_pick [0] rfl ?_
      exact t_J9_floorMod_7cf53_18 hls hC hl hE h
    · rw [if_neg c5] at h
      refine x_iload_n (pc := 14) hC 0 dJ9_floorMod_7cf53_14 rfl rfl ?_
      refine x_iload_n (pc := 15) hC 2 dJ9_floorMod_7cf53_15 rfl rfl ?_
      refine x_iaddv (pc := 16) hC dJ9_floorMod_7cf53_16 (fun x4 hx4 => ?_)
      replace h := lt_x hx4 h
      exact x_ireturn (pc := 17) hC hE dJ9_floorMod_7cf53_17 (so h) (Nat.le_of_ble_eq_true rfl) (Nat.le_of_ble_eq_true rfl)
theorem c_J9_floorMod_7cf53 (l : Launch) (hls : l.stackTraces = false) {S : mS} {a0 : Int32} {a1 : Int32} {o : Rs Int32} (h : f_J9_floorMod_7cf53 S a0 a1 = some o) : CT (fun r : Int32 => some (.int r)) l yJ9_floorMod_7cf53 (.code yJ9_floorMod_7cf53 cJ9_floorMod_7cf53 3 (Option.some Jvm.ClassFile.FieldType.int)) rm_J9_floorMod_7cf53 S [.int a0, .int a1] o := ct_ofF (by decide +kernel) hls (Nat.le_of_ble_eq_true rfl) (fun C hl hC hE => t_J9_floorMod_7cf53 hls hC hl hE h)
abbrev rm_Jxa1e45_init_da8c8 : Room := { frames := 8, cells := 0, slots := 0, locals := 150 }
def f_Jxa1e45_init_da8c8 (S : mS) (a0 : Nat) : Option (Rs Unit) :=
  gd (gK S a0 = 5) (some (.inl (), S))
set_option maxHeartbeats 2000000 in
set_option maxRecDepth 100000 in
theorem t_Jxa1e45_init_da8c8 {l : Launch} (hls : l.stackTraces = false) {C : cT} (hC : CX C cJxa1e45_init_da8c8 1 yJxa1e45_init_da8c8 rm_Jxa1e45_init_da8c8) (hl : C.2.1 = l) {S0 : mS} (hE : CE C S0 (Option.none : Option Jvm.ClassFile.FieldType) []) {o : Rs Unit} {S : mS} {a0 : Nat} (h : f_Jxa1e45_init_da8c8 S a0 = some o) : XX C 1 (QQ C (fun _ : Unit => none) S0 o) 0 0 S 0 [(0, .ref a0)] [] := by
  unfold f_Jxa1e45_init_da8c8 at h
  refine x_aload_n (pc := 0) hC 0 dJxa1e45_init_da8c8_0 rfl rfl ?_
  obtain ⟨g1, h⟩ := gd_some h
  refine x_objInit (pc := 1) hC wm_1548 wm_94 wm_95 dJxa1e45_init_da8c8_1 (by rw [g1]; decide) (Nat.le_of_ble_eq_true rfl) (Nat.le_of_ble_eq_true rfl) ?_
  exact x_vreturn (pc := 4) hC hE dJxa1e45_init_da8c8_4 (so h) (Nat.le_of_ble_eq_true rfl) (Nat.le_of_ble_eq_true rfl)
theorem c_Jxa1e45_init_da8c8 (l : Launch) (hls : l.stackTraces = false) {S : mS} {a0 : Nat} {o : Rs Unit} (h : f_Jxa1e45_init_da8c8 S a0 = some o) : CT (fun _ : Unit => none) l yJxa1e45_init_da8c8 (.code yJxa1e45_init_da8c8 cJxa1e45_init_da8c8 1 (Option.none : Option Jvm.ClassFile.FieldType)) rm_Jxa1e45_init_da8c8 S [.ref a0] o := ct_of (by decide +kernel) hls (Nat.le_of_ble_eq_true rfl) (fun C hl hC hE => t_Jxa1e45_init_da8c8 hls hC hl hE h)
abbrev rm_Jxc12de_init_da8c8 : Room := { frames := 9, cells := 0, slots := 0, locals := 170 }
def f_Jxc12de_init_da8c8 (S : mS) (a0 : Nat) : Option (Rs Unit) :=
  gd (gK S a0 = 5) (bd (f_Jxa1e45_init_da8c8 S a0) fun _ S3 => gd (gK S3 a0 = 5) (zI (sI S3 a0 0 (0 : Int32)) fun S7 => some (.inl (), S7)))
set_option maxHeartbeats 2000000 in
set_option maxRecDepth 100000 in
theorem t_Jxc12de_init_da8c8 {l : Launch} (hls : l.stackTraces = false) {C : cT} (hC : CX C cJxc12de_init_da8c8 1 yJxc12de_init_da8c8 rm_Jxc12de_init_da8c8) (hl : C.2.1 = l) {S0 : mS} (hE : CE C S0 (Option.none : Option Jvm.ClassFile.FieldType) []) {o : Rs Unit} {S : mS} {a0 : Nat} (h : f_Jxc12de_init_da8c8 S a0 = some o) : XX C 1 (QQ C (fun _ : Unit => none) S0 o) 0 0 S 0 [(0, .ref a0)] [] := by
  unfold f_Jxc12de_init_da8c8 at h
  refine x_aload_n (pc := 0) hC 0 dJxc12de_init_da8c8_0 rfl rfl ?_
  obtain ⟨g1, h⟩ := gd_some h
  obtain ⟨o4, ho4, h⟩ := bd_some h
  refine x_callI (pc := 1) (As := []) (rest := []) hC hl (c_Jxa1e45_init_da8c8 l hls ho4) lk_RJxc12de_1 (by rw [g1]; decide) dJxc12de_init_da8c8_1 rfl rfl (Nat.le_of_ble_eq_true rfl) ⟨Nat.le_of_ble_eq_true rfl, Nat.le_of_ble_eq_true rfl⟩ ⟨(Nat.le_of_ble_eq_true rfl), (Nat.le_of_ble_eq_true rfl)⟩ ?_
  rcases o4 with ⟨_ | E5, S3⟩
  · refine xk_v ?_
    replace h := bk_l h
    refine x_aload_n (pc := 4) hC 0 dJxc12de_init_da8c8_4 rfl rfl ?_
    refine x_iconst (pc := 5) (v := (0 : Int32)) hC dJxc12de_init_da8c8_5 (by decide) ?_
    obtain ⟨g6, h⟩ := gd_some h
    refine x_putIv (pc := 6) (k := 0) hC fc_5 fl_RJxc12de_7 dJxc12de_init_da8c8_6 rfl rfl (nf_int _) g6 (fun S7 hS7 => ?_)
    replace h := zI_x hS7 h
    have g8 : gK S7 a0 = 5 := by rw [hS7]; exact g6
    exact x_vreturn (pc := 9) hC hE dJxc12de_init_da8c8_9 (so h) (Nat.le_of_ble_eq_true rfl) (Nat.le_of_ble_eq_true rfl)
  · exact xk_r (xt_out hC hE (bk_r h) (Nat.le_of_ble_eq_true rfl) (Nat.le_of_ble_eq_true rfl))
theorem c_Jxc12de_init_da8c8 (l : Launch) (hls : l.stackTraces = false) {S : mS} {a0 : Nat} {o : Rs Unit} (h : f_Jxc12de_init_da8c8 S a0 = some o) : CT (fun _ : Unit => none) l yJxc12de_init_da8c8 (.code yJxc12de_init_da8c8 cJxc12de_init_da8c8 1 (Option.none : Option Jvm.ClassFile.FieldType)) rm_Jxc12de_init_da8c8 S [.ref a0] o := ct_of (by decide +kernel) hls (Nat.le_of_ble_eq_true rfl) (fun C hl hC hE => t_Jxc12de_init_da8c8 hls hC hl hE h)
abbrev rm_Jx4a65c_init_da8c8 : Room := { frames := 10, cells := 0, slots := 0, locals := 190 }
def f_Jx4a65c_init_da8c8 (S : mS) (a0 : Nat) : Option (Rs Unit) :=
  gd (gK S a0 = 5) (bd (f_Jxc12de_init_da8c8 S a0) fun _ S3 => gd (gK S3 a0 = 5) (zR (sR S3 a0 1 (KB + 20)) fun S7 => some (.inl (), S7)))
set_option maxHeartbeats 2000000 in
set_option maxRecDepth 100000 in
theorem t_Jx4a65c_init_da8c8 {l : Launch} (hls : l.stackTraces = false) {C : cT} (hC : CX C cJx4a65c_init_da8c8 1 yJx4a65c_init_da8c8 rm_Jx4a65c_init_da8c8) (hl : C.2.1 = l) {S0 : mS} (hE : CE C S0 (Option.none : Option Jvm.ClassFile.FieldType) []) {o : Rs Unit} {S : mS} {a0 : Nat} (h : f_Jx4a65c_init_da8c8 S a0 = some o) : XX C 1 (QQ C (fun _ : Unit => none) S0 o) 0 0 S 0 [(0, .ref a0)] [] := by
  unfold f_Jx4a65c_init_da8c8 at h
  refine x_aload_n (pc := 0) hC 0 dJx4a65c_init_da8c8_0 rfl rfl ?_
  obtain ⟨g1, h⟩ := gd_some h
  obtain ⟨o4, ho4, h⟩ := bd_some h
  refine x_callI (pc := 1) (As := []) (rest := []) hC hl (c_Jxc12de_init_da8c8 l hls ho4) lk_RJx4a65c_1 (by rw [g1]; decide) dJx4a65c_init_da8c8_1 rfl rfl (Nat.le_of_ble_eq_true rfl) ⟨Nat.le_of_ble_eq_true rfl, Nat.le_of_ble_eq_true rfl⟩ ⟨(Nat.le_of_ble_eq_true rfl), (Nat.le_of_ble_eq_true rfl)⟩ ?_
  rcases o4 with ⟨_ | E5, S3⟩
  · refine xk_v ?_
    replace h := bk_l h
    refine x_aload_n (pc := 4) hC 0 dJx4a65c_init_da8c8_4 rfl rfl ?_
    refine x_getsK (pc := 5) hC wm_1549 dJx4a65c_init_da8c8_5 ?_
    obtain ⟨g6, h⟩ := gd_some h
    refine x_putRv (pc := 8) (k := 1) hC fc_5 fl_RJx4a65c_9 dJx4a65c_init_da8c8_8 rfl rfl (Or.inr ⟨_, rfl⟩) g6 (fun S7 hS7 => ?_)
    replace h := zR_x hS7 h
    have g8 : gK S7 a0 = 5 := by rw [hS7]; exact g6
    exact x_vreturn (pc := 11) hC hE dJx4a65c_init_da8c8_11 (so h) (Nat.le_of_ble_eq_true rfl) (Nat.le_of_ble_eq_true rfl)
  · exact xk_r (xt_out hC hE (bk_r h) (Nat.le_of_ble_eq_true rfl) (Nat.le_of_ble_eq_true rfl))
theorem c_Jx4a65c_init_da8c8 (l : Launch) (hls : l.stackTraces = false) {S : mS} {a0 : Nat} {o : Rs Unit} (h : f_Jx4a65c_init_da8c8 S a0 = some o) : CT (fun _ : Unit => none) l yJx4a65c_init_da8c8 (.code yJx4a65c_init_da8c8 cJx4a65c_init_da8c8 1 (Option.none : Option Jvm.ClassFile.FieldType)) rm_Jx4a65c_init_da8c8 S [.ref a0] o := ct_of (by decide +kernel) hls (Nat.le_of_ble_eq_true rfl) (fun C hl hC hE => t_Jx4a65c_init_da8c8 hls hC hl hE h)
abbrev rm_J6_signum_0f7a4 : Room := { frames := 8, cells := 0, slots := 0, locals := 150 }
def f_J6_signum_0f7a4 (S : mS) (a0 : Int32) : Option (Rs Int32) :=
  lt9 (a0 >>> ((31 : Int32) &&& 31)) fun x1 => lt9 (-a0) fun x2 => none
set_option maxHeartbeats 2000000 in
set_option maxRecDepth 100000 in
theorem t_J6_signum_0f7a4 {l : Launch} (hls : l.stackTraces = false) {C : cT} (hC : CX C cJ6_signum_0f7a4 1 yJ6_signum_0f7a4 rm_J6_signum_0f7a4) (hl : C.2.1 = l) {S0 : mS} (hE : CE C S0 (Option.some Jvm.ClassFile.FieldType.int) []) {o : Rs Int32} {S : mS} {a0 : Int32} (h : f_J6_signum_0f7a4 S a0 = some o) : XX C 1 (QQ C (fun r : Int32 => some (.int r)) S0 o) 0 0 S 0 [(0, .int a0)] [] := by
  unfold f_J6_signum_0f7a4 at h
  refine x_iload_n (pc := 0) hC 0 dJ6_signum_0f7a4_0 rfl rfl ?_
  refine x_bipush (pc := 1) (v := (31 : Int32)) hC dJ6_signum_0f7a4_1 (by decide) ?_
  refine x_ishrv (pc := 3) hC dJ6_signum_0f7a4_3 (fun x1 hx1 => ?_)
  replace h := lt_x hx1 h
  refine x_iload_n (pc := 4) hC 0 dJ6_signum_0f7a4_4 rfl rfl ?_
  refine x_inegv (pc := 5) hC dJ6_signum_0f7a4_5 (fun x2 hx2 => ?_)
  replace h := lt_x hx2 h
  refine x_bipush (pc := 6) (v := (31 : Int32)) hC dJ6_signum_0f7a4_6 (by decide) ?_
  cases h
theorem c_J6_signum_0f7a4 (l : Launch) (hls : l.stackTraces = false) {S : mS} {a0 : Int32} {o : Rs Int32} (h : f_J6_signum_0f7a4 S a0 = some o) : CT (fun r : Int32 => some (.int r)) l yJ6_signum_0f7a4 (.code yJ6_signum_0f7a4 cJ6_signum_0f7a4 1 (Option.some Jvm.ClassFile.FieldType.int)) rm_J6_signum_0f7a4 S [.int a0] o := ct_of (by decide +kernel) hls (Nat.le_of_ble_eq_true rfl) (fun C hl hC hE => t_J6_signum_0f7a4 hls hC hl hE h)
abbrev rm_Jx4a65c_size_8abf5 : Room := { frames := 8, cells := 0, slots := 0, locals := 150 }
def f_Jx4a65c_size_8abf5 (S : mS) (a0 : Nat) : Option (Rs Int32) :=
  gd (gK S a0 = 5) (lt9 (gI S a0 2) fun x2 => some (.inl x2, S))
set_option maxHeartbeats 2000000 in
set_option maxRecDepth 100000 in
theorem t_Jx4a65c_size_8abf5 {l : Launch} (hls : l.stackTraces = false) {C : cT} (hC : CX C cJx4a65c_size_8abf5 1 yJx4a65c_size_8abf5 rm_Jx4a65c_size_8abf5) (hl : C.2.1 = l) {S0 : mS} (hE : CE C S0 (Option.some Jvm.ClassFile.FieldType.int) []) {o : Rs Int32} {S : mS} {a0 : Nat} (h : f_Jx4a65c_size_8abf5 S a0 = some o) : XX C 1 (QQ C (fun r : Int32 => some (.int r)) S0 o) 0 0 S 0 [(0, .ref a0)] [] := by
  unfold f_Jx4a65c_size_8abf5 at h
  refine x_aload_n (pc := 0) hC 0 dJx4a65c_size_8abf5_0 rfl rfl ?_
  obtain ⟨g1, h⟩ := gd_some h
  refine x_getIv (pc := 1) (k := 2) hC fc_5 fl_RJx4a65c_48 dJx4a65c_size_8abf5_1 rfl g1 (fun x2 hx2 => ?_)
  replace h := lt_x hx2 h
  exact x_ireturn (pc := 4) hC hE dJx4a65c_size_8abf5_4 (so h) (Nat.le_of_ble_eq_true rfl) (Nat.le_of_ble_eq_true rfl)
theorem c_Jx4a65c_size_8abf5 (l : Launch) (hls : l.stackTraces = false) {S : mS} {a0 : Nat} {o : Rs Int32} (h : f_Jx4a65c_size_8abf5 S a0 = some o) : CT (fun r : Int32 => some (.int r)) l yJx4a65c_size_8abf5 (.code yJx4a65c_size_8abf5 cJx4a65c_size_8abf5 1 (Option.some Jvm.ClassFile.FieldType.int)) rm_Jx4a65c_size_8abf5 S [.ref a0] o := ct_of (by decide +kernel) hls (Nat.le_of_ble_eq_true rfl) (fun C hl hC hE => t_Jx4a65c_size_8abf5 hls hC hl hE h)
abbrev rm_J7_copyOf_6403c : Room := { frames := 8, cells := 0, slots := 0, locals := 150 }
def f_J7_copyOf_6403c (S : mS) (a0 : Nat) (a1 : Int32) (a2 : Nat) : Option (Rs Nat) :=
  none
set_option maxHeartbeats 2000000 in
set_option maxRecDepth 100000 in
theorem t_J7_copyOf_6403c {l : Launch} (hls : l.stackTraces = false) {C : cT} (hC : CX C cJ7_copyOf_6403c 4 yJ7_copyOf_6403c rm_J7_copyOf_6403c) (hl : C.2.1 = l) {S0 : mS} (hE : CE C S0 (Option.some (Jvm.ClassFile.FieldType.array (Jvm.ClassFile.FieldType.object "java/lang/Object"))) []) {o : Rs Nat} {S : mS} {a0 : Nat} {a1 : Int32} {a2 : Nat} (h : f_J7_copyOf_6403c S a0 a1 a2 = some o) : XX C 4 (QQ C (fun r : Nat => some (.ref r)) S0 o) 0 0 S 0 [(0, .ref a0), (1, .int a1), (2, .ref a2)] [] := by
  unfold f_J7_copyOf_6403c at h
  refine x_aload_n (pc := 0) hC 2 dJ7_copyOf_6403c_0 rfl rfl ?_
  cases h
theorem c_J7_copyOf_6403c (l : Launch) (hls : l.stackTraces = false) {S : mS} {a0 : Nat} {a1 : Int32} {a2 : Nat} {o : Rs Nat} (h : f_J7_copyOf_6403c S a0 a1 a2 = some o) : CT (fun r : Nat => some (.ref r)) l yJ7_copyOf_6403c (.code yJ7_copyOf_6403c cJ7_copyOf_6403c 4 (Option.some (Jvm.ClassFile.FieldType.array (Jvm.ClassFile.FieldType.object "java/lang/Object")))) rm_J7_copyOf_6403c S [.ref a0, .int a1, .ref a2] o := ct_of (by decide +kernel) hls (Nat.le_of_ble_eq_true rfl) (fun C hl hC hE => t_J7_copyOf_6403c hls hC hl hE h)
abbrev rm_J7_copyOf_1904c : Room := { frames := 8, cells := 0, slots := 0, locals := 150 }
def f_J7_copyOf_1904c (S : mS) (a0 : Nat) (a1 : Int32) : Option (Rs Nat) :=
  none
set_option maxHeartbeats 2000000 in
set_option maxRecDepth 100000 in
theorem t_J7_copyOf_1904c {l : Launch} (hls : l.stackTraces = false) {C : cT} (hC : CX C cJ7_copyOf_1904c 2 yJ7_copyOf_1904c rm_J7_copyOf_1904c) (hl : C.2.1 = l) {S0 : mS} (hE : CE C S0 (Option.some (Jvm.ClassFile.FieldType.array (Jvm.ClassFile.FieldType.object "java/lang/Object"))) []) {o : Rs Nat} {S : mS} {a0 : Nat} {a1 : Int32} (h : f_J7_copyOf_1904c S a0 a1 = some o) : XX C 2 (QQ C (fun r : Nat => some (.ref r)) S0 o) 0 0 S 0 [(0, .ref a0), (1, .int a1)] [] := by
  unfold f_J7_copyOf_1904c at h
  refine x_aload_n (pc := 0) hC 0 dJ7_copyOf_1904c_0 rfl rfl ?_
  refine x_iload_n (pc := 1) hC 1 dJ7_copyOf_1904c_1 rfl rfl ?_
  refine x_aload_n (pc := 2) hC 0 dJ7_copyOf_1904c_2 rfl rfl ?_
  cases h
theorem c_J7_copyOf_1904c (l : Launch) (hls : l.stackTraces = false) {S : mS} {a0 : Nat} {a1 : Int32} {o : Rs Nat} (h : f_J7_copyOf_1904c S a0 a1 = some o) : CT (fun r : Nat => some (.ref r)) l yJ7_copyOf_1904c (.code yJ7_copyOf_1904c cJ7_copyOf_1904c 2 (Option.some (Jvm.ClassFile.FieldType.array (Jvm.ClassFile.FieldType.object "java/lang/Object")))) rm_J7_copyOf_1904c S [.ref a0, .int a1] o := ct_of (by decide +kernel) hls (Nat.le_of_ble_eq_true rfl) (fun C hl hC hE => t_J7_copyOf_1904c hls hC hl hE h)
abbrev rm_J8_hugeLength_7cf53 : Room := { frames := 8, cells := 0, slots := 0, locals := 150 }
def f_J8_hugeLength_7cf53 (S : mS) (a0 : Int32) (a1 : Int32) : Option (Rs Int32) :=
  lt9 (a0 + a1) fun x1 => if 0 ≤ x1 then (if (2147483639 : Int32) < x1 then (some (.inl x1, S)) else (some (.inl (2147483639 : Int32), S))) else (none)
set_option maxHeartbeats 2000000 in
set_option maxRecDepth 100000 in
theorem t_J8_hugeLength_7cf53 {l : Launch} (hls : l.stackTraces = false) {C : cT} (hC : CX C cJ8_hugeLength_7cf53 3 yJ8_hugeLength_7cf53 rm_J8_hugeLength_7cf53) (hl : C.2.1 = l) {S0 : mS} (hE : CE C S0 (Option.some Jvm.ClassFile.FieldType.int) []) {o : Rs Int32} {S : mS} {a0 : Int32} {a1 : Int32} (h : f_J8_hugeLength_7cf53 S a0 a1 = some o) : XX C 3 (QQ C (fun r : Int32 => some (.int r)) S0 o) 0 0 S 0 [(0, .int a0), (1, .int a1)] [] := by
  unfold f_J8_hugeLength_7cf53 at h
  refine x_iload_n (pc := 0) hC 0 dJ8_hugeLength_7cf53_0 rfl rfl ?_
  refine x_iload_n (pc := 1) hC 1 dJ8_hugeLength_7cf53_1 rfl rfl ?_
  refine x_iaddv (pc := 2) hC dJ8_hugeLength_7cf53_2 (fun x1 hx1 => ?_)
  replace h := lt_x hx1 h
  refine x_istore_n (pc := 3) hC dJ8_hugeLength_7cf53_3 rfl (by decide) (by decide) rfl ?_
  refine x_iload_n (pc := 4) hC 0 dJ8_hugeLength_7cf53_4 rfl rfl ?_
  refine x_if_ge (pc := 5) hC 49 dJ8_hugeLength_7cf53_5 (by decide) (fun c3 => ?_) (fun c3 => ?_)
  · rw [if_pos c3] at h
    refine x_iload_n (pc := 49) hC 0 dJ8_hugeLength_7cf53_49 rfl rfl ?_
    refine x_ldc (pc := 50) hC wm_1807 dJ8_hugeLength_7cf53_50 ?_
    refine x_icmp_gt (pc := 52) hC 58 dJ8_hugeLength_7cf53_52 (by decide) (fun c2 => ?_) (fun c2 => ?_)
    · rw [if_pos c2] at h
      refine x_iload_n (pc := 58) hC 0 dJ8_hugeLength_7cf53_58 rfl rfl ?_
      exact x_ireturn (pc := 59) hC hE dJ8_hugeLength_7cf53_59 (so h) (Nat.le_of_ble_eq_true rfl) (Nat.le_of_ble_eq_true rfl)
    · rw [if_neg c2] at h
      refine x_ldc (pc := 55) hC wm_1807 dJ8_hugeLength_7cf53_55 ?_
      exact x_ireturn (pc := 57) hC hE dJ8_hugeLength_7cf53_57 (so h) (Nat.le_of_ble_eq_true rfl) (Nat.le_of_ble_eq_true rfl)
  · rw [if_neg c3] at h
    cases h
theorem c_J8_hugeLength_7cf53 (l : Launch) (hls : l.stackTraces = false) {S : mS} {a0 : Int32} {a1 : Int32} {o : Rs Int32} (h : f_J8_hugeLength_7cf53 S a0 a1 = some o) : CT (fun r : Int32 => some (.int r)) l yJ8_hugeLength_7cf53 (.code yJ8_hugeLength_7cf53 cJ8_hugeLength_7cf53 3 (Option.some Jvm.ClassFile.FieldType.int)) rm_J8_hugeLength_7cf53 S [.int a0, .int a1] o := ct_of (by decide +kernel) hls (Nat.le_of_ble_eq_true rfl) (fun C hl hC hE => t_J8_hugeLength_7cf53 hls hC hl hE h)
abbrev rm_J8_newLength_cabcc : Room := { frames := 9, cells := 0, slots := 0, locals := 172 }
def f_J8_newLength_cabcc_21  (S : mS) (a0 : Int32) (a1 : Int32) : Option (Rs Int32) :=
  bd (f_J8_hugeLength_7cf53 S a0 a1) fun x1 S2 => some (.inl x1, S2)
set_option maxHeartbeats 2000000 in
set_option maxRecDepth 100000 in
theorem t_J8_newLength_cabcc_21 {l : Launch} (hls : l.stackTraces = false) {C : cT} (hC : CX C cJ8_newLength_cabcc 4 yJ8_newLength_cabcc rm_J8_newLength_cabcc) (hl : C.2.1 = l) {S0 : mS} (hE : CE C S0 (Option.some Jvm.ClassFile.FieldType.int) []) {o : Rs Int32} {S : mS} {a0 : Int32} {a1 : Int32} (h : f_J8_newLength_cabcc_21  S a0 a1 = some o) : XX C 4 (QQ C (fun r : Int32 => some (.int r)) S0 o) (0) (0) S 21 [(0, .int a0), (1, .int a1)] [] := by
  unfold f_J8_newLength_cabcc_21 at h
  refine x_iload_n (pc := 21) hC 0 dJ8_newLength_cabcc_21 rfl rfl ?_
  refine x_iload_n (pc := 22) hC 1 dJ8_newLength_cabcc_22 rfl rfl ?_
  obtain ⟨o3, ho3, h⟩ := bd_some h
  refine x_callS (pc := 23) (As := [.int a0, .int a1]) (rest := []) hC hl (c_J8_hugeLength_7cf53 l hls ho3) lk_RJ8_201 dJ8_newLength_cabcc_23 rfl rfl (Nat.le_of_ble_eq_true rfl) ⟨Nat.le_of_ble_eq_true rfl, Nat.le_of_ble_eq_true rfl⟩ ⟨(Nat.le_of_ble_eq_true rfl), (Nat.le_of_ble_eq_true rfl)⟩ ?_
  rcases o3 with ⟨x1 | E4, S2⟩
  · refine xk_i ?_
    replace h := bk_l h
    exact x_ireturn (pc := 26) hC hE dJ8_newLength_cabcc_26 (so h) (Nat.le_of_ble_eq_true rfl) (Nat.le_of_ble_eq_true rfl)
  · exact xk_r (xt_out hC hE (bk_r h) (Nat.le_of_ble_eq_true rfl) (Nat.le_of_ble_eq_true rfl))
def f_J8_newLength_cabcc (S : mS) (a0 : Int32) (a1 : Int32) (a2 : Int32) : Option (Rs Int32) :=
  lt9 (if a1 < a2 then a2 else a1) fun x1 => lt9 (a0 + x1) fun x2 => if x2 ≤ (0 : Int32) then (f_J8_newLength_cabcc_21  S a0 a1) else (if (2147483639 : Int32) < x2 then (f_J8_newLength_cabcc_21  S a0 a1) else (some (.inl x2, S)))
set_option maxHeartbeats 2000000 in
set_option maxRecDepth 100000 in
theorem t_J8_newLength_cabcc {l : Launch} (hls : l.stackTraces = false) {C : cT} (hC : CX C cJ8_newLength_cabcc 4 yJ8_newLength_cabcc rm_J8_newLength_cabcc) (hl : C.2.1 = l) {S0 : mS} (hE : CE C S0 (Option.some Jvm.ClassFile.FieldType.int) []) {o : Rs Int32} {S : mS} {a0 : Int32} {a1 : Int32} {a2 : Int32} (h : f_J8_newLength_cabcc S a0 a1 a2 = some o) : XX C 4 (QQ C (fun r : Int32 => some (.int r)) S0 o) 0 0 S 0 [(0, .int a0), (1, .int a1), (2, .int a2)] [] := by
  unfold f_J8_newLength_cabcc at h
  refine x_iload_n (pc := 0) hC 0 dJ8_newLength_cabcc_0 rfl rfl ?_
  refine x_iload_n (pc := 1) hC 1 dJ8_newLength_cabcc_1 rfl rfl ?_
  refine x_iload_n (pc := 2) hC 2 dJ8_newLength_cabcc_2 rfl rfl ?_
  refine x_mmax (pc := 3) hC wm_1806 wm_650 wm_69 wm_651 dJ8_newLength_cabcc_3 (Nat.le_of_ble_eq_true rfl) (Nat.le_of_ble_eq_true rfl) (Nat.le_of_ble_eq_true rfl) (Nat.le_of_ble_eq_true rfl) (fun x1 hx1 => ?_)
  replace h := lt_x hx1 h
  refine x_iaddv (pc := 6) hC dJ8_newLength_cabcc_6 (fun x2 hx2 => ?_)
  replace h := lt_x hx2 h
  refine x_istore_n (pc := 7) hC dJ8_newLength_cabcc_7 rfl (by decide) (by decide) rfl ?_
  refine x_iconst (pc := 8) (v := (0 : Int32)) hC dJ8_newLength_cabcc_8 (by decide) ?_
  refine x_iload_n (pc := 9) hC 0 dJ8_newLength_cabcc_9 rfl rfl ?_
  refine x_icmp_ge (pc := 10) hC 21 dJ8_newLength_cabcc_10 (by decide) (fun c4 => ?_) (fun c4 => ?_)
  · rw [if_pos c4] at h
    refine x_pick [1, 2] rfl ?_
    exact t_J8_newLength_cabcc_21 hls hC hl hE h
  · rw [if_neg c4] at h
    refine x_iload_n (pc := 13) hC 0 dJ8_newLength_cabcc_13 rfl rfl ?_
    refine x_ldc (pc := 14) hC wm_1807 dJ8_newLength_cabcc_14 ?_
    refine x_icmp_gt (pc := 16) hC 21 dJ8_newLength_cabcc_16 (by decide) (fun c3 => ?_) (fun c3 => ?_)
    · rw [if_pos c3] at h
      refine x_pick [1, 2] rfl ?_
      exact t_J8_newLength_cabcc_21 hls hC hl hE h
    · rw [if_neg c3] at h
      refine x_iload_n (pc := 19) hC 0 dJ8_newLength_cabcc_19 rfl rfl ?_
      exact x_ireturn (pc := 20) hC hE dJ8_newLength_cabcc_20 (so h) (Nat.le_of_ble_eq_true rfl) (Nat.le_of_ble_eq_true rfl)
theorem c_J8_newLength_cabcc (l : Launch) (hls : l.stackTraces = false) {S : mS} {a0 : Int32} {a1 : Int32} {a2 : Int32} {o : Rs Int32} (h : f_J8_newLength_cabcc S a0 a1 a2 = some o) : CT (fun r : Int32 => some (.int r)) l yJ8_newLength_cabcc (.code yJ8_newLength_cabcc cJ8_newLength_cabcc 4 (Option.some Jvm.ClassFile.FieldType.int)) rm_J8_newLength_cabcc S [.int a0, .int a1, .int a2] o := ct_of (by decide +kernel) hls (Nat.le_of_ble_eq_true rfl) (fun C hl hC hE => t_J8_newLength_cabcc hls hC hl hE h)
abbrev rm_Jx4a65c_grow_92f84 : Room := { frames := 10, cells := 0, slots := 0, locals := 195 }
def f_Jx4a65c_grow_92f84_20  (S : mS) (a0 : Nat) (a1 : Int32) (a2 : Int32) : Option (Rs Nat) :=
  lt9 (a1 - a2) fun x1 => lt9 (a2 >>> ((1 : Int32) &&& 31)) fun x2 => bd (f_J8_newLength_cabcc S a2 x1 x2) fun x3 S4 => gd (gK S4 a0 = 5) (lt9 (gR S4 a0 1) fun r8 => bd (f_J7_copyOf_1904c S4 r8 x3) fun r9 S10 => gd (gK S10 a0 = 5) (zR (sR S10 a0 1 r9) fun S14 => some (.inl r9, S14)))
set_option maxHeartbeats 2000000 in
set_option maxRecDepth 100000 in
theorem t_Jx4a65c_grow_92f84_20 {l : Launch} (hls : l.stackTraces = false) {C : cT} (hC : CX C cJx4a65c_grow_92f84 4 yJx4a65c_grow_92f84 rm_Jx4a65c_grow_92f84) (hl : C.2.1 = l) {S0 : mS} (hE : CE C S0 (Option.some (Jvm.ClassFile.FieldType.array (Jvm.ClassFile.FieldType.object "java/lang/Object"))) []) {o : Rs Nat} {S : mS} {a0 : Nat} {a1 : Int32} {a2 : Int32} (h : f_Jx4a65c_grow_92f84_20  S a0 a1 a2 = some o) : XX C 4 (QQ C (fun r : Nat => some (.ref r)) S0 o) (0) (0) S 20 [(0, .ref a0), (1, .int a1), (2, .int a2)] [] := by
  unfold f_Jx4a65c_grow_92f84_20 at h
  refine x_iload_n (pc := 20) hC 2 dJx4a65c_grow_92f84_20 rfl rfl ?_
  refine x_iload_n (pc := 21) hC 1 dJx4a65c_grow_92f84_21 rfl rfl ?_
  refine x_iload_n (pc := 22) hC 2 dJx4a65c_grow_92f84_22 rfl rfl ?_
  refine x_isubv (pc := 23) hC dJx4a65c_grow_92f84_23 (fun x1 hx1 => ?_)
  replace h := lt_x hx1 h
  refine x_iload_n (pc := 24) hC 2 dJx4a65c_grow_92f84_24 rfl rfl ?_
  refine x_iconst (pc := 25) (v := (1 : Int32)) hC dJx4a65c_grow_92f84_25 (by decide) ?_
  refine x_ishrv (pc := 26) hC dJx4a65c_grow_92f84_26 (fun x2 hx2 => ?_)
  replace h := lt_x hx2 h
  obtain ⟨o5, ho5, h⟩ := bd_some h
  refine x_callS (pc := 27) (As := [.int a2, .int x1, .int x2]) (rest := []) hC hl (c_J8_newLength_cabcc l hls ho5) lk_RJx4a65c_73 dJx4a65c_grow_92f84_27 rfl rfl (Nat.le_of_ble_eq_true rfl) ⟨Nat.le_of_ble_eq_true rfl, Nat.le_of_ble_eq_true rfl⟩ ⟨(Nat.le_of_ble_eq_true rfl), (Nat.le_of_ble_eq_true rfl)⟩ ?_
  rcases o5 with ⟨x3 | E6, S4⟩
  · refine xk_i ?_
    replace h := bk_l h
    refine x_istore_n (pc := 30) hC dJx4a65c_grow_92f84_30 rfl (by decide) (by decide) rfl ?_
    refine x_aload_n (pc := 31) hC 1 dJx4a65c_grow_92f84_31 rfl rfl ?_
    refine x_aload_n (pc := 32) hC 1 dJx4a65c_grow_92f84_32 rfl rfl ?_
    obtain ⟨g7, h⟩ := gd_some h
    refine x_getRv (pc := 33) (k := 1) hC fc_5 fl_RJx4a65c_9 dJx4a65c_grow_92f84_33 rfl g7 (fun r8 hr8 => ?_)
    replace h := lt_x hr8 h
    refine x_iload_n (pc := 36) hC 0 dJx4a65c_grow_92f84_36 rfl rfl ?_
    obtain ⟨o11, ho11, h⟩ := bd_some h
    refine x_callS (pc := 37) (As := [.ref r8, .int x3]) (rest := [.ref a0]) hC hl (c_J7_copyOf_1904c l hls ho11) lk_RJx4a65c_66 dJx4a65c_grow_92f84_37 rfl rfl (Nat.le_of_ble_eq_true rfl) ⟨Nat.le_of_ble_eq_true rfl, Nat.le_of_ble_eq_true rfl⟩ ⟨(Nat.le_of_ble_eq_true rfl), (Nat.le_of_ble_eq_true rfl)⟩ ?_
    rcases o11 with ⟨r9 | E12, S10⟩
    · refine xk_a ?_
      replace h := bk_l h
      refine x_dup_x1 (pc := 40) hC dJx4a65c_grow_92f84_40 rfl rfl ?_
      obtain ⟨g13, h⟩ := gd_some h
      refine x_putRv (pc := 41) (k := 1) hC fc_5 fl_RJx4a65c_9 dJx4a65c_grow_92f84_41 rfl rfl (Or.inr ⟨_, rfl⟩) g13 (fun S14 hS14 => ?_)
      replace h := zR_x hS14 h
      have g15 : gK S14 a0 = 5 := by rw [hS14]; exact g13
      exact x_areturn (pc := 44) hC hE (Or.inr ⟨_, rfl⟩) dJx4a65c_grow_92f84_44 (so h) (Nat.le_of_ble_eq_true rfl) (Nat.le_of_ble_eq_true rfl)
    · exact xk_r (xt_out hC hE (bk_r h) (Nat.le_of_ble_eq_true rfl) (Nat.le_of_ble_eq_true rfl))
  · exact xk_r (xt_out hC hE (bk_r h) (Nat.le_of_ble_eq_true rfl) (Nat.le_of_ble_eq_true rfl))
def f_Jx4a65c_grow_92f84 (S : mS) (a0 : Nat) (a1 : Int32) : Option (Rs Nat) :=
  gd (gK S a0 = 5) (lt9 (gR S a0 1) fun r2 => if r2 = KB + 20 then (if 0 < (0 : Int32) then (f_Jx4a65c_grow_92f84_20  S a0 a1 (0 : Int32)) else (lt9 (gR S a0 1) fun r3 => gd (r3 < KB ∧ (KB + 20) < KB) (if r3 = (KB + 20) then (lt9 (if (10 : Int32) < a1 then a1 else (10 : Int32)) fun x6 => none) else (f_Jx4a65c_grow_92f84_20  S a0 a1 (0 : Int32))))) else (gd (gK S r2 = 40) (lt9 (Int32.ofNat (gZ S r2)) fun x13 => if 0 < x13 then (f_Jx4a65c_grow_92f84_20  S a0 a1 x13) else (lt9 (gR S a0 1) fun r14 => gd (r14 < KB ∧ (KB + 20) < KB) (if r14 = (KB + 20) then (lt9 (if (10 : Int32) < a1 then a1 else (10 : Int32)) fun x17 => none) else (f_Jx4a65c_grow_92f84_20  S a0 a1 x13))))))
set_option maxHeartbeats 2000000 in
set_option maxRecDepth 100000 in
theorem t_Jx4a65c_grow_92f84 {l : Launch} (hls : l.stackTraces = false) {C : cT} (hC : CX C cJx4a65c_grow_92f84 4 yJx4a65c_grow_92f84 rm_Jx4a65c_grow_92f84) (hl : C.2.1 = l) {S0 : mS} (hE : CE C S0 (Option.some (Jvm.ClassFile.FieldType.array (Jvm.ClassFile.FieldType.object "java/lang/Object"))) []) {o : Rs Nat} {S : mS} {a0 : Nat} {a1 : Int32} (h : f_Jx4a65c_grow_92f84 S a0 a1 = some o) : XX C 4 (QQ C (fun r : Nat => some (.ref r)) S0 o) 0 0 S 0 [(0, .ref a0), (1, .int a1)] [] := by
  unfold f_Jx4a65c_grow_92f84 at h
  refine x_aload_n (pc := 0) hC 0 dJx4a65c_grow_92f84_0 rfl rfl ?_
  obtain ⟨g1, h⟩ := gd_some h
  refine x_getRv (pc := 1) (k := 1) hC fc_5 fl_RJx4a65c_9 dJx4a65c_grow_92f84_1 rfl g1 (fun r2 hr2 => ?_)
  replace h := lt_x hr2 h
  by_cases c23 : r2 = KB + 20
  · rw [if_pos c23] at h
    refine x_alenKe (pc := 4) hC c23 dJx4a65c_grow_92f84_4 ?_
    refine x_istore_n (pc := 5) hC dJx4a65c_grow_92f84_5 rfl (by decide) (by decide) rfl ?_
    refine x_iload_n (pc := 6) hC 0 dJx4a65c_grow_92f84_6 rfl rfl ?_
    refine x_if_gt (pc := 7) hC 20 dJx4a65c_grow_92f84_7 (by decide) (fun c11 => ?_) (fun c11 => ?_)
    · rw [if_pos c11] at h
      refine x_pick [1, 2, 0] rfl ?_
      exact t_Jx4a65c_grow_92f84_20 hls hC hl hE h
    · rw [if_neg c11] at h
      refine x_aload_n (pc := 10) hC 1 dJx4a65c_grow_92f84_10 rfl rfl ?_
      refine x_getRv (pc := 11) (k := 1) hC fc_5 fl_RJx4a65c_9 dJx4a65c_grow_92f84_11 rfl g1 (fun r3 hr3 => ?_)
      replace h := lt_x hr3 h
      refine x_getsK (pc := 14) hC wm_1549 dJx4a65c_grow_92f84_14 ?_
      obtain ⟨⟨g4, g5⟩, h⟩ := gd_some h
      refine x_acmp_eq (pc := 17) hC g4 g5 45 dJx4a65c_grow_92f84_17 (by decide) (fun c10 => ?_) (fun c10 => ?_)
      · rw [if_pos c10] at h
        refine x_aload_n (pc := 45) hC 1 dJx4a65c_grow_92f84_45 rfl rfl ?_
        refine x_bipush (pc := 46) (v := (10 : Int32)) hC dJx4a65c_grow_92f84_46 (by decide) ?_
        refine x_iload_n (pc := 48) hC 2 dJx4a65c_grow_92f84_48 rfl rfl ?_
        refine x_mmax (pc := 49) hC wm_1853 wm_650 wm_69 wm_651 dJx4a65c_grow_92f84_49 (Nat.le_of_ble_eq_true rfl) (Nat.le_of_ble_eq_true rfl) (Nat.le_of_ble_eq_true rfl) (Nat.le_of_ble_eq_true rfl) (fun x6 hx6 => ?_)
        replace h := lt_x hx6 h
        cases h
      · rw [if_neg c10] at h
        refine x_pick [1, 2, 0] rfl ?_
        exact t_Jx4a65c_grow_92f84_20 hls hC hl hE h
  · rw [if_neg c23] at h
    obtain ⟨g12, h⟩ := gd_some h
    refine x_alenv (pc := 4) (t0 := 10) hC dJx4a65c_grow_92f84_4 g12 (by decide) (fun _ => rfl) (fun x13 hx13 => ?_)
    replace h := lt_x hx13 h
    refine x_istore_n (pc := 5) hC dJx4a65c_grow_92f84_5 rfl (by decide) (by decide) rfl ?_
    refine x_iload_n (pc := 6) hC 0 dJx4a65c_grow_92f84_6 rfl rfl ?_
    refine x_if_gt (pc := 7) hC 20 dJx4a65c_grow_92f84_7 (by decide) (fun c22 => ?_) (fun c22 => ?_)
    · rw [if_pos c22] at h
      refine x_pick [1, 2, 0] rfl ?_
      exact t_Jx4a65c_grow_92f84_20 hls hC hl hE h
    · rw [if_neg c22] at h
      refine x_aload_n (pc := 10) hC 1 dJx4a65c_grow_92f84_10 rfl rfl ?_
      refine x_getRv (pc := 11) (k := 1) hC fc_5 fl_RJx4a65c_9 dJx4a65c_grow_92f84_11 rfl g1 (fun r14 hr14 => ?_)
      replace h := lt_x hr14 h
      refine x_getsK (pc := 14) hC wm_1549 dJx4a65c_grow_92f84_14 ?_
      obtain ⟨⟨g15, g16⟩, h⟩ := gd_some h
      refine x_acmp_eq (pc := 17) hC g15 g16 45 dJx4a65c_grow_92f84_17 (by decide) (fun c21 => ?_) (fun c21 => ?_)
      · rw [if_pos c21] at h
        refine x_aload_n (pc := 45) hC 1 dJx4a65c_grow_92f84_45 rfl rfl ?_
        refine x_bipush (pc := 46) (v := (10 : Int32)) hC dJx4a65c_grow_92f84_46 (by decide) ?_
        refine x_iload_n (pc := 48) hC 2 dJx4a65c_grow_92f84_48 rfl rfl ?_
        refine x_mmax (pc := 49) hC wm_1853 wm_650 wm_69 wm_651 dJx4a65c_grow_92f84_49 (Nat.le_of_ble_eq_true rfl) (Nat.le_of_ble_eq_true rfl) (Nat.le_of_ble_eq_true rfl) (Nat.le_of_ble_eq_true rfl) (fun x17 hx17 => ?_)
        replace h := lt_x hx17 h
        cases h
      · rw [if_neg c21] at h
        refine x_pick [1, 2, 0] rfl ?_
        exact t_Jx4a65c_grow_92f84_20 hls hC hl hE h
theorem c_Jx4a65c_grow_92f84 (l : Launch) (hls : l.stackTraces = false) {S : mS} {a0 : Nat} {a1 : Int32} {o : Rs Nat} (h : f_Jx4a65c_grow_92f84 S a0 a1 = some o) : CT (fun r : Nat => some (.ref r)) l yJx4a65c_grow_92f84 (.code yJx4a65c_grow_92f84 cJx4a65c_grow_92f84 4 (Option.some (Jvm.ClassFile.FieldType.array (Jvm.ClassFile.FieldType.object "java/lang/Object")))) rm_Jx4a65c_grow_92f84 S [.ref a0, .int a1] o := ct_of (by decide +kernel) hls (Nat.le_of_ble_eq_true rfl) (fun C hl hC hE => t_Jx4a65c_grow_92f84 hls hC hl hE h)
abbrev rm_Jx4a65c_grow_d5877 : Room := { frames := 11, cells := 0, slots := 0, locals := 218 }
def f_Jx4a65c_grow_d5877 (S : mS) (a0 : Nat) : Option (Rs Nat) :=
  gd (gK S a0 = 5) (lt9 (gI S a0 2) fun x2 => lt9 (x2 + (1 : Int32)) fun x3 => bd (f_Jx4a65c_grow_92f84 S a0 x3) fun r4 S5 => some (.inl r4, S5))
set_option maxHeartbeats 2000000 in
set_option maxRecDepth 100000 in
theorem t_Jx4a65c_grow_d5877 {l : Launch} (hls : l.stackTraces = false) {C : cT} (hC : CX C cJx4a65c_grow_d5877 1 yJx4a65c_grow_d5877 rm_Jx4a65c_grow_d5877) (hl : C.2.1 = l) {S0 : mS} (hE : CE C S0 (Option.some (Jvm.ClassFile.FieldType.array (Jvm.ClassFile.FieldType.object "java/lang/Object"))) []) {o : Rs Nat} {S : mS} {a0 : Nat} (h : f_Jx4a65c_grow_d5877 S a0 = some o) : XX C 1 (QQ C (fun r : Nat => some (.ref r)) S0 o) 0 0 S 0 [(0, .ref a0)] [] := by
  unfold f_Jx4a65c_grow_d5877 at h
  refine x_aload_n (pc := 0) hC 0 dJx4a65c_grow_d5877_0 rfl rfl ?_
  refine x_aload_n (pc := 1) hC 0 dJx4a65c_grow_d5877_1 rfl rfl ?_
  obtain ⟨g1, h⟩ := gd_some h
  refine x_getIv (pc := 2) (k := 2) hC fc_5 fl_RJx4a65c_48 dJx4a65c_grow_d5877_2 rfl g1 (fun x2 hx2 => ?_)
  replace h := lt_x hx2 h
  refine x_iconst (pc := 5) (v := (1 : Int32)) hC dJx4a65c_grow_d5877_5 (by decide) ?_
  refine x_iaddv (pc := 6) hC dJx4a65c_grow_d5877_6 (fun x3 hx3 => ?_)
  replace h := lt_x hx3 h
  obtain ⟨o6, ho6, h⟩ := bd_some h
  refine x_callV (pc := 7) (As := [.int x3]) (rest := []) hC hl (c_Jx4a65c_grow_92f84 l hls ho6) lk_RJx4a65c_69 fc_5 g1 dJx4a65c_grow_d5877_7 rfl rfl (Nat.le_of_ble_eq_true rfl) ⟨Nat.le_of_ble_eq_true rfl, Nat.le_of_ble_eq_true rfl⟩ ⟨(Nat.le_of_ble_eq_true rfl), (Nat.le_of_ble_eq_true rfl)⟩ ?_
  rcases o6 with ⟨r4 | E7, S5⟩
  · refine xk_a ?_
    replace h := bk_l h
    exact x_areturn (pc := 10) hC hE (Or.inr ⟨_, rfl⟩) dJx4a65c_grow_d5877_10 (so h) (Nat.le_of_ble_eq_true rfl) (Nat.le_of_ble_eq_true rfl)
  · exact xk_r (xt_out hC hE (bk_r h) (Nat.le_of_ble_eq_true rfl) (Nat.le_of_ble_eq_true rfl))
theorem c_Jx4a65c_grow_d5877 (l : Launch) (hls : l.stackTraces = false) {S : mS} {a0 : Nat} {o : Rs Nat} (h : f_Jx4a65c_grow_d5877 S a0 = some o) : CT (fun r : Nat => some (.ref r)) l yJx4a65c_grow_d5877 (.code yJx4a65c_grow_d5877 cJx4a65c_grow_d5877 1 (Option.some (Jvm.ClassFile.FieldType.array (Jvm.ClassFile.FieldType.object "java/lang/Object")))) rm_Jx4a65c_grow_d5877 S [.ref a0] o := ct_of (by decide +kernel) hls (Nat.le_of_ble_eq_true rfl) (fun C hl hC hE => t_Jx4a65c_grow_d5877 hls hC hl hE h)
abbrev rm_Jx4a65c_add_72be8 : Room := { frames := 12, cells := 0, slots := 0, locals := 238 }
def f_Jx4a65c_add_72be8_11  (S : mS) (a0 : Nat) (a1 : Nat) (a2 : Nat) (a3 : Int32) : Option (Rs Unit) :=
  gd (gK S a2 = 40) (gd (¬ (a3 < 0 ∨ gZ S a2 ≤ (a3).toNatClampNeg)) (none))
set_option maxHeartbeats 2000000 in
set_option maxRecDepth 100000 in
theorem t_Jx4a65c_add_72be8_11 {l : Launch} (hls : l.stackTraces = false) {C : cT} (hC : CX C cJx4a65c_add_72be8 4 yJx4a65c_add_72be8 rm_Jx4a65c_add_72be8) (hl : C.2.1 = l) {S0 : mS} (hE : CE C S0 (Option.none : Option Jvm.ClassFile.FieldType) []) {o : Rs Unit} {S : mS} {a0 : Nat} {a1 : Nat} {a2 : Nat} {a3 : Int32} (h : f_Jx4a65c_add_72be8_11  S a0 a1 a2 a3 = some o) : XX C 4 (QQ C (fun _ : Unit => none) S0 o) (0) (0) S 11 [(0, .ref a0), (1, .ref a1), (2, .ref a2), (3, .int a3)] [] := by
  unfold f_Jx4a65c_add_72be8_11 at h
  refine x_aload_n (pc := 11) hC 2 dJx4a65c_add_72be8_11 rfl rfl ?_
  refine x_iload_n (pc := 12) hC 3 dJx4a65c_add_72be8_12 rfl rfl ?_
  refine x_aload_n (pc := 13) hC 1 dJx4a65c_add_72be8_13 rfl rfl ?_
  obtain ⟨g2, h⟩ := gd_some h
  obtain ⟨g1, h⟩ := gd_some h
  cases h
def f_Jx4a65c_add_72be8 (S : mS) (a0 : Nat) (a1 : Nat) (a2 : Nat) (a3 : Int32) : Option (Rs Unit) :=
  if a2 = KB + 20 then (if a3 = (0 : Int32) then (gd (gK S a0 = 5) (bd (f_Jx4a65c_grow_d5877 S a0) fun r2 S3 => f_Jx4a65c_add_72be8_11  S3 a0 a1 r2 a3)) else (f_Jx4a65c_add_72be8_11  S a0 a1 a2 a3)) else (gd (gK S a2 = 40) (lt9 (Int32.ofNat (gZ S a2)) fun x8 => if a3 = x8 then (gd (gK S a0 = 5) (bd (f_Jx4a65c_grow_d5877 S a0) fun r10 S11 => f_Jx4a65c_add_72be8_11  S11 a0 a1 r10 a3)) else (f_Jx4a65c_add_72be8_11  S a0 a1 a2 a3)))
set_option maxHeartbeats 2000000 in
set_option maxRecDepth 100000 in
theorem t_Jx4a65c_add_72be8 {l : Launch} (hls : l.stackTraces = false) {C : cT} (hC : CX C cJx4a65c_add_72be8 4 yJx4a65c_add_72be8 rm_Jx4a65c_add_72be8) (hl : C.2.1 = l) {S0 : mS} (hE : CE C S0 (Option.none : Option Jvm.ClassFile.FieldType) []) {o : Rs Unit} {S : mS} {a0 : Nat} {a1 : Nat} {a2 : Nat} {a3 : Int32} (h : f_Jx4a65c_add_72be8 S a0 a1 a2 a3 = some o) : XX C 4 (QQ C (fun _ : Unit => none) S0 o) 0 0 S 0 [(0, .ref a0), (1, .ref a1), (2, .ref a2), (3, .int a3)] [] := by
  unfold f_Jx4a65c_add_72be8 at h
  refine x_iload_n (pc := 0) hC 3 dJx4a65c_add_72be8_0 rfl rfl ?_
  refine x_aload_n (pc := 1) hC 2 dJx4a65c_add_72be8_1 rfl rfl ?_
  by_cases c15 : a2 = KB + 20
  · rw [if_pos c15] at h
    refine x_alenKe (pc := 2) hC c15 dJx4a65c_add_72be8_2 ?_
    refine x_icmp_ne (pc := 3) hC 11 dJx4a65c_add_72be8_3 (by decide) (fun c6 => ?_) (fun c6 => ?_)
    · rw [if_neg c6] at h
      refine x_pick [0, 1, 2, 3] rfl ?_
      exact t_Jx4a65c_add_72be8_11 hls hC hl hE h
    · rw [if_pos c6] at h
      refine x_aload_n (pc := 6) hC 0 dJx4a65c_add_72be8_6 rfl rfl ?_
      obtain ⟨g1, h⟩ := gd_some h
      obtain ⟨o4, ho4, h⟩ := bd_some h
      refine x_callV (pc := 7) (As := []) (rest := []) hC hl (c_Jx4a65c_grow_d5877 l hls ho4) lk_RJx4a65c_129 fc_5 g1 dJx4a65c_add_72be8_7 rfl rfl (Nat.le_of_ble_eq_true rfl) ⟨Nat.le_of_ble_eq_true rfl, Nat.le_of_ble_eq_true rfl⟩ ⟨(Nat.le_of_ble_eq_true rfl), (Nat.le_of_ble_eq_true rfl)⟩ ?_
      rcases o4 with ⟨r2 | E5, S3⟩
      · refine xk_a ?_
        replace h := bk_l h
        refine x_astore_n (pc := 10) hC dJx4a65c_add_72be8_10 rfl (by decide) (by decide) rfl ?_
        refine x_pick [1, 2, 0, 3] rfl ?_
        exact t_Jx4a65c_add_72be8_11 hls hC hl hE h
      · exact xk_r (xt_out hC hE (bk_r h) (Nat.le_of_ble_eq_true rfl) (Nat.le_of_ble_eq_true rfl))
  · rw [if_neg c15] at h
    obtain ⟨g7, h⟩ := gd_some h
    refine x_alenv (pc := 2) (t0 := 10) hC dJx4a65c_add_72be8_2 g7 (by decide) (fun _ => rfl) (fun x8 hx8 => ?_)
    replace h := lt_x hx8 h
    refine x_icmp_ne (pc := 3) hC 11 dJx4a65c_add_72be8_3 (by decide) (fun c14 => ?_) (fun c14 => ?_)
    · rw [if_neg c14] at h
      refine x_pick [0, 1, 2, 3] rfl ?_
      exact t_Jx4a65c_add_72be8_11 hls hC hl hE h
    · rw [if_pos c14] at h
      refine x_aload_n (pc := 6) hC 0 dJx4a65c_add_72be8_6 rfl rfl ?_
      obtain ⟨g9, h⟩ := gd_some h
      obtain ⟨o12, ho12, h⟩ := bd_some h
      refine x_callV (pc := 7) (As := []) (rest := []) hC hl (c_Jx4a65c_grow_d5877 l hls ho12) lk_RJx4a65c_129 fc_5 g9 dJx4a65c_add_72be8_7 rfl rfl (Nat.le_of_ble_eq_true rfl) ⟨Nat.le_of_ble_eq_true rfl, Nat.le_of_ble_eq_true rfl⟩ ⟨(Nat.le_of_ble_eq_true rfl), (Nat.le_of_ble_eq_true rfl)⟩ ?_
      rcases o12 with ⟨r10 | E13, S11⟩
      · refine xk_a ?_
        replace h := bk_l h
        refine x_astore_n (pc := 10) hC dJx4a65c_add_72be8_10 rfl (by decide) (by decide) rfl ?_
        refine x_pick [1, 2, 0, 3] rfl ?_
        exact t_Jx4a65c_add_72be8_11 hls hC hl hE h
      · exact xk_r (xt_out hC hE (bk_r h) (Nat.le_of_ble_eq_true rfl) (Nat.le_of_ble_eq_true rfl))
theorem c_Jx4a65c_add_72be8 (l : Launch) (hls : l.stackTraces = false) {S : mS} {a0 : Nat} {a1 : Nat} {a2 : Nat} {a3 : Int32} {o : Rs Unit} (h : f_Jx4a65c_add_72be8 S a0 a1 a2 a3 = some o) : CT (fun _ : Unit => none) l yJx4a65c_add_72be8 (.code yJx4a65c_add_72be8 cJx4a65c_add_72be8 4 (Option.none : Option Jvm.ClassFile.FieldType)) rm_Jx4a65c_add_72be8 S [.ref a0, .ref a1, .ref a2, .int a3] o := ct_of (by decide +kernel) hls (Nat.le_of_ble_eq_true rfl) (fun C hl hC hE => t_Jx4a65c_add_72be8 hls hC hl hE h)
abbrev rm_Jx4a65c_add_9ea2d : Room := { frames := 13, cells := 0, slots := 0, locals := 261 }
def f_Jx4a65c_add_9ea2d (S : mS) (a0 : Nat) (a1 : Nat) : Option (Rs Int32) :=
  gd (gK S a0 = 5) (lt9 (gI S a0 0) fun x2 => lt9 (x2 + (1 : Int32)) fun x3 => zI (sI S a0 0 x3) fun S4 => lt9 (gR S4 a0 1) fun r6 => lt9 (gI S4 a0 2) fun x7 => bd (f_Jx4a65c_add_72be8 S4 a0 a1 r6 x7) fun _ S9 => some (.inl (1 : Int32), S9))
set_option maxHeartbeats 2000000 in
set_option maxRecDepth 100000 in
theorem t_Jx4a65c_add_9ea2d {l : Launch} (hls : l.stackTraces = false) {C : cT} (hC : CX C cJx4a65c_add_9ea2d 2 yJx4a65c_add_9ea2d rm_Jx4a65c_add_9ea2d) (hl : C.2.1 = l) {S0 : mS} (hE : CE C S0 (Option.some Jvm.ClassFile.FieldType.boolean) []) {o : Rs Int32} {S : mS} {a0 : Nat} {a1 : Nat} (h : f_Jx4a65c_add_9ea2d S a0 a1 = some o) : XX C 2 (QQ C (fun r : Int32 => some (.int r)) S0 o) 0 0 S 0 [(0, .ref a0), (1, .ref a1)] [] := by
  unfold f_Jx4a65c_add_9ea2d at h
  refine x_aload_n (pc := 0) hC 0 dJx4a65c_add_9ea2d_0 rfl rfl ?_
  refine x_dup (pc := 1) hC dJx4a65c_add_9ea2d_1 rfl ?_
  obtain ⟨g1, h⟩ := gd_some h
  refine x_getIv (pc := 2) (k := 0) hC fc_5 fl_RJx4a65c_63 dJx4a65c_add_9ea2d_2 rfl g1 (fun x2 hx2 => ?_)
  replace h := lt_x hx2 h
  refine x_iconst (pc := 5) (v := (1 : Int32)) hC dJx4a65c_add_9ea2d_5 (by decide) ?_
  refine x_iaddv (pc := 6) hC dJx4a65c_add_9ea2d_6 (fun x3 hx3 => ?_)
  replace h := lt_x hx3 h
  refine x_putIv (pc := 7) (k := 0) hC fc_5 fl_RJx4a65c_63 dJx4a65c_add_9ea2d_7 rfl rfl (nf_int _) g1 (fun S4 hS4 => ?_)
  replace h := zI_x hS4 h
  have g5 : gK S4 a0 = 5 := by rw [hS4]; exact g1
  refine x_aload_n (pc := 10) hC 0 dJx4a65c_add_9ea2d_10 rfl rfl ?_
  refine x_aload_n (pc := 11) hC 1 dJx4a65c_add_9ea2d_11 rfl rfl ?_
  refine x_aload_n (pc := 12) hC 0 dJx4a65c_add_9ea2d_12 rfl rfl ?_
  refine x_getRv (pc := 13) (k := 1) hC fc_5 fl_RJx4a65c_9 dJx4a65c_add_9ea2d_13 rfl g5 (fun r6 hr6 => ?_)
  replace h := lt_x hr6 h
  refine x_aload_n (pc := 16) hC 0 dJx4a65c_add_9ea2d_16 rfl rfl ?_
  refine x_getIv (pc := 17) (k := 2) hC fc_5 fl_RJx4a65c_48 dJx4a65c_add_9ea2d_17 rfl g5 (fun x7 hx7 => ?_)
  replace h := lt_x hx7 h
  obtain ⟨o10, ho10, h⟩ := bd_some h
  refine x_callV (pc := 20) (As := [.ref a1, .ref r6, .int x7]) (rest := []) hC hl (c_Jx4a65c_add_72be8 l hls ho10) lk_RJx4a65c_131 fc_5 g5 dJx4a65c_add_9ea2d_20 rfl rfl (Nat.le_of_ble_eq_true rfl) ⟨Nat.le_of_ble_eq_true rfl, Nat.le_of_ble_eq_true rfl⟩ ⟨(Nat.le_of_ble_eq_true rfl), (Nat.le_of_ble_eq_true rfl)⟩ ?_
  rcases o10 with ⟨_ | E11, S9⟩
  · refine xk_v ?_
    replace h := bk_l h
    refine x_iconst (pc := 23) (v := (1 : Int32)) hC dJx4a65c_add_9ea2d_23 (by decide) ?_
    exact x_zreturn (pc := 24) hC hE dJx4a65c_add_9ea2d_24 (show NF .boolean _ from ⟨rfl, rfl⟩).1 (so h) (Nat.le_of_ble_eq_true rfl) (Nat.le_of_ble_eq_true rfl)
  · exact xk_r (xt_out hC hE (bk_r h) (Nat.le_of_ble_eq_true rfl) (Nat.le_of_ble_eq_true rfl))
theorem c_Jx4a65c_add_9ea2d (l : Launch) (hls : l.stackTraces = false) {S : mS} {a0 : Nat} {a1 : Nat} {o : Rs Int32} (h : f_Jx4a65c_add_9ea2d S a0 a1 = some o) : CT (fun r : Int32 => some (.int r)) l yJx4a65c_add_9ea2d (.code yJx4a65c_add_9ea2d cJx4a65c_add_9ea2d 2 (Option.some Jvm.ClassFile.FieldType.boolean)) rm_Jx4a65c_add_9ea2d S [.ref a0, .ref a1] o := ct_of (by decide +kernel) hls (Nat.le_of_ble_eq_true rfl) (fun C hl hC hE => t_Jx4a65c_add_9ea2d hls hC hl hE h)
abbrev rm_J3_checkIndex_8e157 : Room := { frames := 8, cells := 0, slots := 0, locals := 150 }
def f_J3_checkIndex_8e157_9  (S : mS) (a0 : Int32) (a1 : Int32) (a2 : Nat) : Option (Rs Int32) :=
  none
set_option maxHeartbeats 2000000 in
set_option maxRecDepth 100000 in
theorem t_J3_checkIndex_8e157_9 {l : Launch} (hls : l.stackTraces = false) {C : cT} (hC : CX C cJ3_checkIndex_8e157 3 yJ3_checkIndex_8e157 rm_J3_checkIndex_8e157) (hl : C.2.1 = l) {S0 : mS} (hE : CE C S0 (Option.some Jvm.ClassFile.FieldType.int) []) {o : Rs Int32} {S : mS} {a0 : Int32} {a1 : Int32} {a2 : Nat} (h : f_J3_checkIndex_8e157_9  S a0 a1 a2 = some o) : XX C 3 (QQ C (fun r : Int32 => some (.int r)) S0 o) (0) (0) S 9 [(0, .int a0), (1, .int a1), (2, .ref a2)] [] := by
  unfold f_J3_checkIndex_8e157_9 at h
  refine x_aload_n (pc := 9) hC 2 dJ3_checkIndex_8e157_9 rfl rfl ?_
  refine x_iload_n (pc := 10) hC 0 dJ3_checkIndex_8e157_10 rfl rfl ?_
  refine x_iload_n (pc := 11) hC 1 dJ3_checkIndex_8e157_11 rfl rfl ?_
  cases h
def f_J3_checkIndex_8e157 (S : mS) (a0 : Int32) (a1 : Int32) (a2 : Nat) : Option (Rs Int32) :=
  if a0 < 0 then (f_J3_checkIndex_8e157_9  S a0 a1 a2) else (if a0 < a1 then (some (.inl a0, S)) else (f_J3_checkIndex_8e157_9  S a0 a1 a2))
set_option maxHeartbeats 2000000 in
set_option maxRecDepth 100000 in
theorem t_J3_checkIndex_8e157 {l : Launch} (hls : l.stackTraces = false) {C : cT} (hC : CX C cJ3_checkIndex_8e157 3 yJ3_checkIndex_8e157 rm_J3_checkIndex_8e157) (hl : C.2.1 = l) {S0 : mS} (hE : CE C S0 (Option.some Jvm.ClassFile.FieldType.int) []) {o : Rs Int32} {S : mS} {a0 : Int32} {a1 : Int32} {a2 : Nat} (h : f_J3_checkIndex_8e157 S a0 a1 a2 = some o) : XX C 3 (QQ C (fun r : Int32 => some (.int r)) S0 o) 0 0 S 0 [(0, .int a0), (1, .int a1), (2, .ref a2)] [] := by
  unfold f_J3_checkIndex_8e157 at h
  refine x_iload_n (pc := 0) hC 0 dJ3_checkIndex_8e157_0 rfl rfl ?_
  refine x_if_lt (pc := 1) hC 9 dJ3_checkIndex_8e157_1 (by decide) (fun c2 => ?_) (fun c2 => ?_)
  · rw [if_pos c2] at h
    refine x_pick [0, 1, 2] rfl ?_
    exact t_J3_checkIndex_8e157_9 hls hC hl hE h
  · rw [if_neg c2] at h
    refine x_iload_n (pc := 4) hC 0 dJ3_checkIndex_8e157_4 rfl rfl ?_
    refine x_iload_n (pc := 5) hC 1 dJ3_checkIndex_8e157_5 rfl rfl ?_
    refine x_icmp_lt (pc := 6) hC 16 dJ3_checkIndex_8e157_6 (by decide) (fun c1 => ?_) (fun c1 => ?_)
    · rw [if_pos c1] at h
      refine x_iload_n (pc := 16) hC 0 dJ3_checkIndex_8e157_16 rfl rfl ?_
      exact x_ireturn (pc := 17) hC hE dJ3_checkIndex_8e157_17 (so h) (Nat.le_of_ble_eq_true rfl) (Nat.le_of_ble_eq_true rfl)
    · rw [if_neg c1] at h
      refine x_pick [0, 1, 2] rfl ?_
      exact t_J3_checkIndex_8e157_9 hls hC hl hE h
theorem c_J3_checkIndex_8e157 (l : Launch) (hls : l.stackTraces = false) {S : mS} {a0 : Int32} {a1 : Int32} {a2 : Nat} {o : Rs Int32} (h : f_J3_checkIndex_8e157 S a0 a1 a2 = some o) : CT (fun r : Int32 => some (.int r)) l yJ3_checkIndex_8e157 (.code yJ3_checkIndex_8e157 cJ3_checkIndex_8e157 3 (Option.some Jvm.ClassFile.FieldType.int)) rm_J3_checkIndex_8e157 S [.int a0, .int a1, .ref a2] o := ct_of (by decide +kernel) hls (Nat.le_of_ble_eq_true rfl) (fun C hl hC hE => t_J3_checkIndex_8e157 hls hC hl hE h)
abbrev rm_J15_checkIndex_7cf53 : Room := { frames := 9, cells := 0, slots := 0, locals := 172 }
def f_J15_checkIndex_7cf53 (S : mS) (a0 : Int32) (a1 : Int32) : Option (Rs Int32) :=
  bd (f_J3_checkIndex_8e157 S a0 a1 0) fun x1 S2 => some (.inl x1, S2)
set_option maxHeartbeats 2000000 in
set_option maxRecDepth 100000 in
theorem t_J15_checkIndex_7cf53 {l : Launch} (hls : l.stackTraces = false) {C : cT} (hC : CX C cJ15_checkIndex_7cf53 2 yJ15_checkIndex_7cf53 rm_J15_checkIndex_7cf53) (hl : C.2.1 = l) {S0 : mS} (hE : CE C S0 (Option.some Jvm.ClassFile.FieldType.int) []) {o : Rs Int32} {S : mS} {a0 : Int32} {a1 : Int32} (h : f_J15_checkIndex_7cf53 S a0 a1 = some o) : XX C 2 (QQ C (fun r : Int32 => some (.int r)) S0 o) 0 0 S 0 [(0, .int a0), (1, .int a1)] [] := by
  unfold f_J15_checkIndex_7cf53 at h
  refine x_iload_n (pc := 0) hC 0 dJ15_checkIndex_7cf53_0 rfl rfl ?_
  refine x_iload_n (pc := 1) hC 1 dJ15_checkIndex_7cf53_1 rfl rfl ?_
  refine x_null (pc := 2) hC dJ15_checkIndex_7cf53_2 ?_
  obtain ⟨o3, ho3, h⟩ := bd_some h
  refine x_callS (pc := 3) (As := [.int a0, .int a1, .ref 0]) (rest := []) hC hl (c_J3_checkIndex_8e157 l hls ho3) lk_RJ15_105 dJ15_checkIndex_7cf53_3 rfl rfl (Nat.le_of_ble_eq_true rfl) ⟨Nat.le_of_ble_eq_true rfl, Nat.le_of_ble_eq_true rfl⟩ ⟨(Nat.le_of_ble_eq_true rfl), (Nat.le_of_ble_eq_true rfl)⟩ ?_
  rcases o3 with ⟨x1 | E4, S2⟩
  · refine xk_i ?_
    replace h := bk_l h
    exact x_ireturn (pc := 6) hC hE dJ15_checkIndex_7cf53_6 (so h) (Nat.le_of_ble_eq_true rfl) (Nat.le_of_ble_eq_true rfl)
  · exact xk_r (xt_out hC hE (bk_r h) (Nat.le_of_ble_eq_true rfl) (Nat.le_of_ble_eq_true rfl))
theorem c_J15_checkIndex_7cf53 (l : Launch) (hls : l.stackTraces = false) {S : mS} {a0 : Int32} {a1 : Int32} {o : Rs Int32} (h : f_J15_checkIndex_7cf53 S a0 a1 = some o) : CT (fun r : Int32 => some (.int r)) l yJ15_checkIndex_7cf53 (.code yJ15_checkIndex_7cf53 cJ15_checkIndex_7cf53 2 (Option.some Jvm.ClassFile.FieldType.int)) rm_J15_checkIndex_7cf53 S [.int a0, .int a1] o := ct_of (by decide +kernel) hls (Nat.le_of_ble_eq_true rfl) (fun C hl hC hE => t_J15_checkIndex_7cf53 hls hC hl hE h)
abbrev rm_Jx4a65c_elementData_915e3 : Room := { frames := 8, cells := 0, slots := 0, locals := 150 }
def f_Jx4a65c_elementData_915e3 (S : mS) (a0 : Nat) (a1 : Int32) : Option (Rs Nat) :=
  gd (gK S a0 = 5) (lt9 (gR S a0 1) fun r2 => gd (gK S r2 = 40) (gd (¬ (a1 < 0 ∨ gZ S r2 ≤ (a1).toNatClampNeg)) (lt9 (gR S r2 (a1).toNatClampNeg) fun r6 => some (.inl r6, S))))
set_option maxHeartbeats 2000000 in
set_option maxRecDepth 100000 in
theorem t_Jx4a65c_elementData_915e3 {l : Launch} (hls : l.stackTraces = false) {C : cT} (hC : CX C cJx4a65c_elementData_915e3 2 yJx4a65c_elementData_915e3 rm_Jx4a65c_elementData_915e3) (hl : C.2.1 = l) {S0 : mS} (hE : CE C S0 (Option.some (Jvm.ClassFile.FieldType.object "java/lang/Object")) []) {o : Rs Nat} {S : mS} {a0 : Nat} {a1 : Int32} (h : f_Jx4a65c_elementData_915e3 S a0 a1 = some o) : XX C 2 (QQ C (fun r : Nat => some (.ref r)) S0 o) 0 0 S 0 [(0, .ref a0), (1, .int a1)] [] := by
  unfold f_Jx4a65c_elementData_915e3 at h
  refine x_aload_n (pc := 0) hC 0 dJx4a65c_elementData_915e3_0 rfl rfl ?_
  obtain ⟨g1, h⟩ := gd_some h
  refine x_getRv (pc := 1) (k := 1) hC fc_5 fl_RJx4a65c_9 dJx4a65c_elementData_915e3_1 rfl g1 (fun r2 hr2 => ?_)
  replace h := lt_x hr2 h
  refine x_iload_n (pc := 4) hC 1 dJx4a65c_elementData_915e3_4 rfl rfl ?_
  obtain ⟨g5, h⟩ := gd_some h
  obtain ⟨g4, h⟩ := gd_some h
  refine x_raldv (pc := 5) (t0 := 10) hC dJx4a65c_elementData_915e3_5 g5 (by decide) (fun _ => rfl) g4 (fun r6 hr6 => ?_)
  replace h := lt_x hr6 h
  exact x_areturn (pc := 6) hC hE (Or.inl ⟨_, rfl⟩) dJx4a65c_elementData_915e3_6 (so h) (Nat.le_of_ble_eq_true rfl) (Nat.le_of_ble_eq_true rfl)
theorem c_Jx4a65c_elementData_915e3 (l : Launch) (hls : l.stackTraces = false) {S : mS} {a0 : Nat} {a1 : Int32} {o : Rs Nat} (h : f_Jx4a65c_elementData_915e3 S a0 a1 = some o) : CT (fun r : Nat => some (.ref r)) l yJx4a65c_elementData_915e3 (.code yJx4a65c_elementData_915e3 cJx4a65c_elementData_915e3 2 (Option.some (Jvm.ClassFile.FieldType.object "java/lang/Object"))) rm_Jx4a65c_elementData_915e3 S [.ref a0, .int a1] o := ct_of (by decide +kernel) hls (Nat.le_of_ble_eq_true rfl) (fun C hl hC hE => t_Jx4a65c_elementData_915e3 hls hC hl hE h)
abbrev rm_Jx4a65c_get_915e3 : Room := { frames := 10, cells := 0, slots := 0, locals := 193 }
def f_Jx4a65c_get_915e3 (S : mS) (a0 : Nat) (a1 : Int32) : Option (Rs Nat) :=
  gd (gK S a0 = 5) (lt9 (gI S a0 2) fun x2 => bd (f_J15_checkIndex_7cf53 S a1 x2) fun x3 S4 => gd (gK S4 a0 = 5) (bd (f_Jx4a65c_elementData_915e3 S4 a0 a1) fun r8 S9 => some (.inl r8, S9)))
set_option maxHeartbeats 2000000 in
set_option maxRecDepth 100000 in
theorem t_Jx4a65c_get_915e3 {l : Launch} (hls : l.stackTraces = false) {C : cT} (hC : CX C cJx4a65c_get_915e3 2 yJx4a65c_get_915e3 rm_Jx4a65c_get_915e3) (hl : C.2.1 = l) {S0 : mS} (hE : CE C S0 (Option.some (Jvm.ClassFile.FieldType.object "java/lang/Object")) []) {o : Rs Nat} {S : mS} {a0 : Nat} {a1 : Int32} (h : f_Jx4a65c_get_915e3 S a0 a1 = some o) : XX C 2 (QQ C (fun r : Nat => some (.ref r)) S0 o) 0 0 S 0 [(0, .ref a0), (1, .int a1)] [] := by
  unfold f_Jx4a65c_get_915e3 at h
  refine x_iload_n (pc := 0) hC 1 dJx4a65c_get_915e3_0 rfl rfl ?_
  refine x_aload_n (pc := 1) hC 0 dJx4a65c_get_915e3_1 rfl rfl ?_
  obtain ⟨g1, h⟩ := gd_some h
  refine x_getIv (pc := 2) (k := 2) hC fc_5 fl_RJx4a65c_48 dJx4a65c_get_915e3_2 rfl g1 (fun x2 hx2 => ?_)
  replace h := lt_x hx2 h
  obtain ⟨o5, ho5, h⟩ := bd_some h
  refine x_callS (pc := 5) (As := [.int a1, .int x2]) (rest := []) hC hl (c_J15_checkIndex_7cf53 l hls ho5) lk_RJx4a65c_118 dJx4a65c_get_915e3_5 rfl rfl (Nat.le_of_ble_eq_true rfl) ⟨Nat.le_of_ble_eq_true rfl, Nat.le_of_ble_eq_true rfl⟩ ⟨(Nat.le_of_ble_eq_true rfl), (Nat.le_of_ble_eq_true rfl)⟩ ?_
  rcases o5 with ⟨x3 | E6, S4⟩
  · refine xk_i ?_
    replace h := bk_l h
    refine x_pop (pc := 8) hC dJx4a65c_get_915e3_8 rfl ?_
    refine x_aload_n (pc := 9) hC 0 dJx4a65c_get_915e3_9 rfl rfl ?_
    refine x_iload_n (pc := 10) hC 1 dJx4a65c_get_915e3_10 rfl rfl ?_
    obtain ⟨g7, h⟩ := gd_some h
    obtain ⟨o10, ho10, h⟩ := bd_some h
    refine x_callV (pc := 11) (As := [.int a1]) (rest := []) hC hl (c_Jx4a65c_elementData_915e3 l hls ho10) lk_RJx4a65c_123 fc_5 g7 dJx4a65c_get_915e3_11 rfl rfl (Nat.le_of_ble_eq_true rfl) ⟨Nat.le_of_ble_eq_true rfl, Nat.le_of_ble_eq_true rfl⟩ ⟨(Nat.le_of_ble_eq_true rfl), (Nat.le_of_ble_eq_true rfl)⟩ ?_
    rcases o10 with ⟨r8 | E11, S9⟩
    · refine xk_a ?_
      replace h := bk_l h
      exact x_areturn (pc := 14) hC hE (Or.inl ⟨_, rfl⟩) dJx4a65c_get_915e3_14 (so h) (Nat.le_of_ble_eq_true rfl) (Nat.le_of_ble_eq_true rfl)
    · exact xk_r (xt_out hC hE (bk_r h) (Nat.le_of_ble_eq_true rfl) (Nat.le_of_ble_eq_true rfl))
  · exact xk_r (xt_out hC hE (bk_r h) (Nat.le_of_ble_eq_true rfl) (Nat.le_of_ble_eq_true rfl))
theorem c_Jx4a65c_get_915e3 (l : Launch) (hls : l.stackTraces = false) {S : mS} {a0 : Nat} {a1 : Int32} {o : Rs Nat} (h : f_Jx4a65c_get_915e3 S a0 a1 = some o) : CT (fun r : Nat => some (.ref r)) l yJx4a65c_get_915e3 (.code yJx4a65c_get_915e3 cJx4a65c_get_915e3 2 (Option.some (Jvm.ClassFile.FieldType.object "java/lang/Object"))) rm_Jx4a65c_get_915e3 S [.ref a0, .int a1] o := ct_of (by decide +kernel) hls (Nat.le_of_ble_eq_true rfl) (fun C hl hC hE => t_Jx4a65c_get_915e3 hls hC hl hE h)
abbrev rm_J0_isLatin1_aae02 : Room := { frames := 8, cells := 0, slots := 0, locals := 150 }
def f_J0_isLatin1_aae02 (S : mS) (a0 : Nat) : Option (Rs Int32) :=
  none
set_option maxHeartbeats 2000000 in
set_option maxRecDepth 100000 in
theorem t_J0_isLatin1_aae02 {l : Launch} (hls : l.stackTraces = false) {C : cT} (hC : CX C cJ0_isLatin1_aae02 1 yJ0_isLatin1_aae02 rm_J0_isLatin1_aae02) (hl : C.2.1 = l) {S0 : mS} (hE : CE C S0 (Option.some Jvm.ClassFile.FieldType.boolean) []) {o : Rs Int32} {S : mS} {a0 : Nat} (h : f_J0_isLatin1_aae02 S a0 = some o) : XX C 1 (QQ C (fun r : Int32 => some (.int r)) S0 o) 0 0 S 0 [(0, .ref a0)] [] := by
  unfold f_J0_isLatin1_aae02 at h
  cases h
theorem c_J0_isLatin1_aae02 (l : Launch) (hls : l.stackTraces = false) {S : mS} {a0 : Nat} {o : Rs Int32} (h : f_J0_isLatin1_aae02 S a0 = some o) : CT (fun r : Int32 => some (.int r)) l yJ0_isLatin1_aae02 (.code yJ0_isLatin1_aae02 cJ0_isLatin1_aae02 1 (Option.some Jvm.ClassFile.FieldType.boolean)) rm_J0_isLatin1_aae02 S [.ref a0] o := ct_of (by decide +kernel) hls (Nat.le_of_ble_eq_true rfl) (fun C hl hC hE => t_J0_isLatin1_aae02 hls hC hl hE h)
abbrev rm_J0_coder_7d493 : Room := { frames := 8, cells := 0, slots := 0, locals := 150 }
def f_J0_coder_7d493 (S : mS) (a0 : Nat) : Option (Rs Int32) :=
  none
set_option maxHeartbeats 2000000 in
set_option maxRecDepth 100000 in
theorem t_J0_coder_7d493 {l : Launch} (hls : l.stackTraces = false) {C : cT} (hC : CX C cJ0_coder_7d493 1 yJ0_coder_7d493 rm_J0_coder_7d493) (hl : C.2.1 = l) {S0 : mS} (hE : CE C S0 (Option.some Jvm.ClassFile.FieldType.byte) []) {o : Rs Int32} {S : mS} {a0 : Nat} (h : f_J0_coder_7d493 S a0 = some o) : XX C 1 (QQ C (fun r : Int32 => some (.int r)) S0 o) 0 0 S 0 [(0, .ref a0)] [] := by
  unfold f_J0_coder_7d493 at h
  cases h
theorem c_J0_coder_7d493 (l : Launch) (hls : l.stackTraces = false) {S : mS} {a0 : Nat} {o : Rs Int32} (h : f_J0_coder_7d493 S a0 = some o) : CT (fun r : Int32 => some (.int r)) l yJ0_coder_7d493 (.code yJ0_coder_7d493 cJ0_coder_7d493 1 (Option.some Jvm.ClassFile.FieldType.byte)) rm_J0_coder_7d493 S [.ref a0] o := ct_of (by decide +kernel) hls (Nat.le_of_ble_eq_true rfl) (fun C hl hC hE => t_J0_coder_7d493 hls hC hl hE h)
abbrev rm_J0_length_8abf5 : Room := { frames := 8, cells := 0, slots := 0, locals := 150 }
def f_J0_length_8abf5 (S : mS) (a0 : Nat) : Option (Rs Int32) :=
  none
set_option maxHeartbeats 2000000 in
set_option maxRecDepth 100000 in
theorem t_J0_length_8abf5 {l : Launch} (hls : l.stackTraces = false) {C : cT} (hC : CX C cJ0_length_8abf5 1 yJ0_length_8abf5 rm_J0_length_8abf5) (hl : C.2.1 = l) {S0 : mS} (hE : CE C S0 (Option.some Jvm.ClassFile.FieldType.int) []) {o : Rs Int32} {S : mS} {a0 : Nat} (h : f_J0_length_8abf5 S a0 = some o) : XX C 1 (QQ C (fun r : Int32 => some (.int r)) S0 o) 0 0 S 0 [(0, .ref a0)] [] := by
  unfold f_J0_length_8abf5 at h
  refine x_aload_n (pc := 0) hC 0 dJ0_length_8abf5_0 rfl rfl ?_
  cases h
theorem c_J0_length_8abf5 (l : Launch) (hls : l.stackTraces = false) {S : mS} {a0 : Nat} {o : Rs Int32} (h : f_J0_length_8abf5 S a0 = some o) : CT (fun r : Int32 => some (.int r)) l yJ0_length_8abf5 (.code yJ0_length_8abf5 cJ0_length_8abf5 1 (Option.some Jvm.ClassFile.FieldType.int)) rm_J0_length_8abf5 S [.ref a0] o := ct_of (by decide +kernel) hls (Nat.le_of_ble_eq_true rfl) (fun C hl hC hE => t_J0_length_8abf5 hls hC hl hE h)
abbrev rm_J1_canEncode_9a6ad : Room := { frames := 8, cells := 0, slots := 0, locals := 150 }
def f_J1_canEncode_9a6ad_16  (S : mS) (s0 : Int32) : Option (Rs Int32) :=
  gd (s0 = 0 ∨ s0 = 1) (some (.inl s0, S))
set_option maxHeartbeats 2000000 in
set_option maxRecDepth 100000 in
theorem t_J1_canEncode_9a6ad_16 {l : Launch} (hls : l.stackTraces = false) {C : cT} (hC : CX C cJ1_canEncode_9a6ad 1 yJ1_canEncode_9a6ad rm_J1_canEncode_9a6ad) (hl : C.2.1 = l) {S0 : mS} (hE : CE C S0 (Option.some Jvm.ClassFile.FieldType.boolean) []) {o : Rs Int32} {S : mS} {s0 : Int32} (h : f_J1_canEncode_9a6ad_16  S s0 = some o) : XX C 1 (QQ C (fun r : Int32 => some (.int r)) S0 o) (0) (0) S 16 [] [.int s0] := by
  unfold f_J1_canEncode_9a6ad_16 at h
  obtain ⟨g1, h⟩ := gd_some h
  exact x_zreturn (pc := 16) hC hE dJ1_canEncode_9a6ad_16 (nf_B g1).1 (so h) (Nat.le_of_ble_eq_true rfl) (Nat.le_of_ble_eq_true rfl)
def f_J1_canEncode_9a6ad_15  (S : mS) : Option (Rs Int32) :=
  f_J1_canEncode_9a6ad_16  S (0 : Int32)
set_option maxHeartbeats 2000000 in
set_option maxRecDepth 100000 in
theorem t_J1_canEncode_9a6ad_15 {l : Launch} (hls : l.stackTraces = false) {C : cT} (hC : CX C cJ1_canEncode_9a6ad 1 yJ1_canEncode_9a6ad rm_J1_canEncode_9a6ad) (hl : C.2.1 = l) {S0 : mS} (hE : CE C S0 (Option.some Jvm.ClassFile.FieldType.boolean) []) {o : Rs Int32} {S : mS} (h : f_J1_canEncode_9a6ad_15  S = some o) : XX C 1 (QQ C (fun r : Int32 => some (.int r)) S0 o) (0) (0) S 15 [] [] := by
  unfold f_J1_canEncode_9a6ad_15 at h
  refine x_iconst (pc := 15) (v := (0 : Int32)) hC dJ1_canEncode_9a6ad_15 (by decide) ?_
  refine x_pick [] rfl ?_
  exact t_J1_canEncode_9a6ad_16 hls hC hl hE h
def f_J1_canEncode_9a6ad (S : mS) (a0 : Int32) : Option (Rs Int32) :=
  if a0 < 0 then (f_J1_canEncode_9a6ad_15  S) else (if (255 : Int32) < a0 then (f_J1_canEncode_9a6ad_15  S) else (f_J1_canEncode_9a6ad_16  S (1 : Int32)))
set_option maxHeartbeats 2000000 in
set_option maxRecDepth 100000 in
theorem t_J1_canEncode_9a6ad {l : Launch} (hls : l.stackTraces = false) {C : cT} (hC : CX C cJ1_canEncode_9a6ad 1 yJ1_canEncode_9a6ad rm_J1_canEncode_9a6ad) (hl : C.2.1 = l) {S0 : mS} (hE : CE C S0 (Option.some Jvm.ClassFile.FieldType.boolean) []) {o : Rs Int32} {S : mS} {a0 : Int32} (h : f_J1_canEncode_9a6ad S a0 = some o) : XX C 1 (QQ C (fun r : Int32 => some (.int r)) S0 o) 0 0 S 0 [(0, .int a0)] [] := by
  unfold f_J1_canEncode_9a6ad at h
  refine x_iload_n (pc := 0) hC 0 dJ1_canEncode_9a6ad_0 rfl rfl ?_
  refine x_if_lt (pc := 1) hC 15 dJ1_canEncode_9a6ad_1 (by decide) (fun c2 => ?_) (fun c2 => ?_)
  · rw [if_pos c2] at h
    refine x_pick [] rfl ?_
    exact t_J1_canEncode_9a6ad_15 hls hC hl hE h
  · rw [if_neg c2] at h
    refine x_iload_n (pc := 4) hC 0 dJ1_canEncode_9a6ad_4 rfl rfl ?_
    refine x_sipush (pc := 5) (v := (255 : Int32)) hC dJ1_canEncode_9a6ad_5 (by decide) ?_
    refine x_icmp_gt (pc := 8) hC 15 dJ1_canEncode_9a6ad_8 (by decide) (fun c1 => ?_) (fun c1 => ?_)
    · rw [if_pos c1] at h
      refine x_pick [] rfl ?_
      exact t_J1_canEncode_9a6ad_15 hls hC hl hE h
    · rw [if_neg c1] at h
      refine x_iconst (pc := 11) (v := (1 : Int32)) hC dJ1_canEncode_9a6ad_11 (by decide) ?_
      refine x_goto (pc := 12) hC 16 dJ1_canEncode_9a6ad_12 (by decide) ?_
      refine x_pick [] rfl ?_
      exact t_J1_canEncode_9a6ad_16 hls hC hl hE h
theorem c_J1_canEncode_9a6ad (l : Launch) (hls : l.stackTraces = false) {S : mS} {a0 : Int32} {o : Rs Int32} (h : f_J1_canEncode_9a6ad S a0 = some o) : CT (fun r : Int32 => some (.int r)) l yJ1_canEncode_9a6ad (.code yJ1_canEncode_9a6ad cJ1_canEncode_9a6ad 1 (Option.some Jvm.ClassFile.FieldType.boolean)) rm_J1_canEncode_9a6ad S [.int a0] o := ct_of (by decide +kernel) hls (Nat.le_of_ble_eq_true rfl) (fun C hl hC hE => t_J1_canEncode_9a6ad hls hC hl hE h)
abbrev rm_J1_indexOfChar_4cfef : Room := { frames := 8, cells := 0, slots := 0, locals := 150 }
def f_J1_indexOfChar_4cfef (S : mS) (a0 : Nat) (a1 : Int32) (a2 : Int32) (a3 : Int32) : Option (Rs Int32) :=
  none
set_option maxHeartbeats 2000000 in
set_option maxRecDepth 100000 in
theorem t_J1_indexOfChar_4cfef {l : Launch} (hls : l.stackTraces = false) {C : cT} (hC : CX C cJ1_indexOfChar_4cfef 6 yJ1_indexOfChar_4cfef rm_J1_indexOfChar_4cfef) (hl : C.2.1 = l) {S0 : mS} (hE : CE C S0 (Option.some Jvm.ClassFile.FieldType.int) []) {o : Rs Int32} {S : mS} {a0 : Nat} {a1 : Int32} {a2 : Int32} {a3 : Int32} (h : f_J1_indexOfChar_4cfef S a0 a1 a2 a3 = some o) : XX C 6 (QQ C (fun r : Int32 => some (.int r)) S0 o) 0 0 S 0 [(0, .ref a0), (1, .int a1), (2, .int a2), (3, .int a3)] [] := by
  unfold f_J1_indexOfChar_4cfef at h
  refine x_iload_n (pc := 0) hC 1 dJ1_indexOfChar_4cfef_0 rfl rfl ?_
  cases h
theorem c_J1_indexOfChar_4cfef (l : Launch) (hls : l.stackTraces = false) {S : mS} {a0 : Nat} {a1 : Int32} {a2 : Int32} {a3 : Int32} {o : Rs Int32} (h : f_J1_indexOfChar_4cfef S a0 a1 a2 a3 = some o) : CT (fun r : Int32 => some (.int r)) l yJ1_indexOfChar_4cfef (.code yJ1_indexOfChar_4cfef cJ1_indexOfChar_4cfef 6 (Option.some Jvm.ClassFile.FieldType.int)) rm_J1_indexOfChar_4cfef S [.ref a0, .int a1, .int a2, .int a3] o := ct_of (by decide +kernel) hls (Nat.le_of_ble_eq_true rfl) (fun C hl hC hE => t_J1_indexOfChar_4cfef hls hC hl hE h)
abbrev rm_J1_indexOf_4cfef : Room := { frames := 9, cells := 0, slots := 0, locals := 175 }
def f_J1_indexOf_4cfef (S : mS) (a0 : Nat) (a1 : Int32) (a2 : Int32) (a3 : Int32) : Option (Rs Int32) :=
  bd (f_J1_canEncode_9a6ad S a1) fun x1 S2 => if x1 = 0 then (some (.inl (-1 : Int32), S2)) else (lt9 (if a2 < (0 : Int32) then (0 : Int32) else a2) fun x5 => gd (gK S2 a0 = 33) (lt9 (Int32.ofNat (gZ S2 a0)) fun x7 => lt9 (if x7 < a3 then x7 else a3) fun x8 => if x5 < x8 then (bd (f_J1_indexOfChar_4cfef S2 a0 a1 x5 x8) fun x9 S10 => some (.inl x9, S10)) else (some (.inl (-1 : Int32), S2))))
set_option maxHeartbeats 2000000 in
set_option maxRecDepth 100000 in
theorem t_J1_indexOf_4cfef {l : Launch} (hls : l.stackTraces = false) {C : cT} (hC : CX C cJ1_indexOf_4cfef 4 yJ1_indexOf_4cfef rm_J1_indexOf_4cfef) (hl : C.2.1 = l) {S0 : mS} (hE : CE C S0 (Option.some Jvm.ClassFile.FieldType.int) []) {o : Rs Int32} {S : mS} {a0 : Nat} {a1 : Int32} {a2 : Int32} {a3 : Int32} (h : f_J1_indexOf_4cfef S a0 a1 a2 a3 = some o) : XX C 4 (QQ C (fun r : Int32 => some (.int r)) S0 o) 0 0 S 0 [(0, .ref a0), (1, .int a1), (2, .int a2), (3, .int a3)] [] := by
  unfold f_J1_indexOf_4cfef at h
  refine x_iload_n (pc := 0) hC 1 dJ1_indexOf_4cfef_0 rfl rfl ?_
  obtain ⟨o3, ho3, h⟩ := bd_some h
  refine x_callS (pc := 1) (As := [.int a1]) (rest := []) hC hl (c_J1_canEncode_9a6ad l hls ho3) lk_RJ1_88 dJ1_indexOf_4cfef_1 rfl rfl (Nat.le_of_ble_eq_true rfl) ⟨Nat.le_of_ble_eq_true rfl, Nat.le_of_ble_eq_true rfl⟩ ⟨(Nat.le_of_ble_eq_true rfl), (Nat.le_of_ble_eq_true rfl)⟩ ?_
  rcases o3 with ⟨x1 | E4, S2⟩
  · refine xk_i ?_
    replace h := bk_l h
    refine x_if_ne (pc := 4) hC 9 dJ1_indexOf_4cfef_4 (by decide) (fun c14 => ?_) (fun c14 => ?_)
    · rw [if_neg c14] at h
      refine x_iload_n (pc := 9) hC 2 dJ1_indexOf_4cfef_9 rfl rfl ?_
      refine x_iconst (pc := 10) (v := (0 : Int32)) hC dJ1_indexOf_4cfef_10 (by decide) ?_
      refine x_mmax (pc := 11) hC wm_2053 wm_650 wm_69 wm_651 dJ1_indexOf_4cfef_11 (Nat.le_of_ble_eq_true rfl) (Nat.le_of_ble_eq_true rfl) (Nat.le_of_ble_eq_true rfl) (Nat.le_of_ble_eq_true rfl) (fun x5 hx5 => ?_)
      replace h := lt_x hx5 h
      refine x_istore_n (pc := 14) hC dJ1_indexOf_4cfef_14 rfl (by decide) (by decide) rfl ?_
      refine x_iload_n (pc := 15) hC 3 dJ1_indexOf_4cfef_15 rfl rfl ?_
      refine x_aload_n (pc := 16) hC 1 dJ1_indexOf_4cfef_16 rfl rfl ?_
      obtain ⟨g6, h⟩ := gd_some h
      refine x_alenv (pc := 17) (t0 := 3) hC dJ1_indexOf_4cfef_17 g6 (by decide) (fun _ => rfl) (fun x7 hx7 => ?_)
      replace h := lt_x hx7 h
      refine x_mmin (pc := 18) hC wm_2054 wm_598 wm_69 wm_599 dJ1_indexOf_4cfef_18 (Nat.le_of_ble_eq_true rfl) (Nat.le_of_ble_eq_true rfl) (Nat.le_of_ble_eq_true rfl) (Nat.le_of_ble_eq_true rfl) (fun x8 hx8 => ?_)
      replace h := lt_x hx8 h
      refine x_istore_n (pc := 21) hC dJ1_indexOf_4cfef_21 rfl (by decide) (by decide) rfl ?_
      refine x_iload_n (pc := 22) hC 1 dJ1_indexOf_4cfef_22 rfl rfl ?_
      refine x_iload_n (pc := 23) hC 0 dJ1_indexOf_4cfef_23 rfl rfl ?_
      refine x_icmp_lt (pc := 24) hC 29 dJ1_indexOf_4cfef_24 (by decide) (fun c13 => ?_) (fun c13 => ?_)
      · rw [if_pos c13] at h
        refine x_aload_n (pc := 29) hC 2 dJ1_indexOf_4cfef_29 rfl rfl ?_
        refine x_iload_n (pc := 30) hC 3 dJ1_indexOf_4cfef_30 rfl rfl ?_
        refine x_iload_n (pc := 31) hC 1 dJ1_indexOf_4cfef_31 rfl rfl ?_
        refine x_iload_n (pc := 32) hC 0 dJ1_indexOf_4cfef_32 rfl rfl ?_
        obtain ⟨o11, ho11, h⟩ := bd_some h
        refine x_callS (pc := 33) (As := [.ref a0, .int a1, .int x5, .int x8]) (rest := []) hC hl (c_J1_indexOfChar_4cfef l hls ho11) lk_RJ1_95 dJ1_indexOf_4cfef_33 rfl rfl (Nat.le_of_ble_eq_true rfl) ⟨Nat.le_of_ble_eq_true rfl, Nat.le_of_ble_eq_true rfl⟩ ⟨(Nat.le_of_ble_eq_true rfl), (Nat.le_of_ble_eq_true rfl)⟩ ?_
        rcases o11 with ⟨x9 | E12, S10⟩
        · refine xk_i ?_
          replace h := bk_l h
          exact x_ireturn (pc := 36) hC hE dJ1_indexOf_4cfef_36 (so h) (Nat.le_of_ble_eq_true rfl) (Nat.le_of_ble_eq_true rfl)
        · exact xk_r (xt_out hC hE (bk_r h) (Nat.le_of_ble_eq_true rfl) (Nat.le_of_ble_eq_true rfl))
      · rw [if_neg c13] at h
        refine x_iconst (pc := 27) (v := (-1 : Int32)) hC dJ1_indexOf_4cfef_27 (by decide) ?_
        exact x_ireturn (pc := 28) hC hE dJ1_indexOf_4cfef_28 (so h) (Nat.le_of_ble_eq_true rfl) (Nat.le_of_ble_eq_true rfl)
    · rw [if_pos c14] at h
      refine x_iconst (pc := 7) (v := (-1 : Int32)) hC dJ1_indexOf_4cfef_7 (by decide) ?_
      exact x_ireturn (pc := 8) hC hE dJ1_indexOf_4cfef_8 (so h) (Nat.le_of_ble_eq_true rfl) (Nat.le_of_ble_eq_true rfl)
  · exact xk_r (xt_out hC hE (bk_r h) (Nat.le_of_ble_eq_true rfl) (Nat.le_of_ble_eq_true rfl))
theorem c_J1_indexOf_4cfef (l : Launch) (hls : l.stackTraces = false) {S : mS} {a0 : Nat} {a1 : Int32} {a2 : Int32} {a3 : Int32} {o : Rs Int32} (h : f_J1_indexOf_4cfef S a0 a1 a2 a3 = some o) : CT (fun r : Int32 => some (.int r)) l yJ1_indexOf_4cfef (.code yJ1_indexOf_4cfef cJ1_indexOf_4cfef 4 (Option.some Jvm.ClassFile.FieldType.int)) rm_J1_indexOf_4cfef S [.ref a0, .int a1, .int a2, .int a3] o := ct_of (by decide +kernel) hls (Nat.le_of_ble_eq_true rfl) (fun C hl hC hE => t_J1_indexOf_4cfef hls hC hl hE h)
abbrev rm_J3_checkFromToIndex_8c36e : Room := { frames := 8, cells := 0, slots := 0, locals := 150 }
def f_J3_checkFromToIndex_8c36e_14  (S : mS) (a0 : Int32) (a1 : Int32) (a2 : Int32) (a3 : Nat) : Option (Rs Int32) :=
  none
set_option maxHeartbeats 2000000 in
set_option maxRecDepth 100000 in
theorem t_J3_checkFromToIndex_8c36e_14 {l : Launch} (hls : l.stackTraces = false) {C : cT} (hC : CX C cJ3_checkFromToIndex_8c36e 4 yJ3_checkFromToIndex_8c36e rm_J3_checkFromToIndex_8c36e) (hl : C.2.1 = l) {S0 : mS} (hE : CE C S0 (Option.some Jvm.ClassFile.FieldType.int) []) {o : Rs Int32} {S : mS} {a0 : Int32} {a1 : Int32} {a2 : Int32} {a3 : Nat} (h : f_J3_checkFromToIndex_8c36e_14  S a0 a1 a2 a3 = some o) : XX C 4 (QQ C (fun r : Int32 => some (.int r)) S0 o) (0) (0) S 14 [(0, .int a0), (1, .int a1), (2, .int a2), (3, .ref a3)] [] := by
  unfold f_J3_checkFromToIndex_8c36e_14 at h
  refine x_aload_n (pc := 14) hC 3 dJ3_checkFromToIndex_8c36e_14 rfl rfl ?_
  refine x_iload_n (pc := 15) hC 0 dJ3_checkFromToIndex_8c36e_15 rfl rfl ?_
  refine x_iload_n (pc := 16) hC 1 dJ3_checkFromToIndex_8c36e_16 rfl rfl ?_
  refine x_iload_n (pc := 17) hC 2 dJ3_checkFromToIndex_8c36e_17 rfl rfl ?_
  cases h
def f_J3_checkFromToIndex_8c36e (S : mS) (a0 : Int32) (a1 : Int32) (a2 : Int32) (a3 : Nat) : Option (Rs Int32) :=
  if a0 < 0 then (f_J3_checkFromToIndex_8c36e_14  S a0 a1 a2 a3) else (if a1 < a0 then (f_J3_checkFromToIndex_8c36e_14  S a0 a1 a2 a3) else (if a1 ≤ a2 then (some (.inl a0, S)) else (f_J3_checkFromToIndex_8c36e_14  S a0 a1 a2 a3)))
set_option maxHeartbeats 2000000 in
set_option maxRecDepth 100000 in
theorem t_J3_checkFromToIndex_8c36e {l : Launch} (hls : l.stackTraces = false) {C : cT} (hC : CX C cJ3_checkFromToIndex_8c36e 4 yJ3_checkFromToIndex_8c36e rm_J3_checkFromToIndex_8c36e) (hl : C.2.1 = l) {S0 : mS} (hE : CE C S0 (Option.some Jvm.ClassFile.FieldType.int) []) {o : Rs Int32} {S : mS} {a0 : Int32} {a1 : Int32} {a2 : Int32} {a3 : Nat} (h : f_J3_checkFromToIndex_8c36e S a0 a1 a2 a3 = some o) : XX C 4 (QQ C (fun r : Int32 => some (.int r)) S0 o) 0 0 S 0 [(0, .int a0), (1, .int a1), (2, .int a2), (3, .ref a3)] [] := by
  unfold f_J3_checkFromToIndex_8c36e at h
  refine x_iload_n (pc := 0) hC 0 dJ3_checkFromToIndex_8c36e_0 rfl rfl ?_
  refine x_if_lt (pc := 1) hC 14 dJ3_checkFromToIndex_8c36e_1 (by decide) (fun c3 => ?_) (fun c3 => ?_)
  · rw [if_pos c3] at h
    refine x_pick [0, 1, 2, 3] rfl ?_
    exact t_J3_checkFromToIndex_8c36e_14 hls hC hl hE h
  · rw [if_neg c3] at h
    refine x_iload_n (pc := 4) hC 0 dJ3_checkFromToIndex_8c36e_4 rfl rfl ?_
    refine x_iload_n (pc := 5) hC 1 dJ3_checkFromToIndex_8c36e_5 rfl rfl ?_
    refine x_icmp_gt (pc := 6) hC 14 dJ3_checkFromToIndex_8c36e_6 (by decide) (fun c2 => ?_) (fun c2 => ?_)
    · rw [if_pos c2] at h
      refine x_pick [0, 1, 2, 3] rfl ?_
      exact t_J3_checkFromToIndex_8c36e_14 hls hC hl hE h
    · rw [if_neg c2] at h
      refine x_iload_n (pc := 9) hC 1 dJ3_checkFromToIndex_8c36e_9 rfl rfl ?_
      refine x_iload_n (pc := 10) hC 2 dJ3_checkFromToIndex_8c36e_10 rfl rfl ?_
      refine x_icmp_le (pc := 11) hC 22 dJ3_checkFromToIndex_8c36e_11 (by decide) (fun c1 => ?_) (fun c1 => ?_)
      · rw [if_pos c1] at h
        refine x_iload_n (pc := 22) hC 0 dJ3_checkFromToIndex_8c36e_22 rfl rfl ?_
        exact x_ireturn (pc := 23) hC hE dJ3_checkFromToIndex_8c36e_23 (so h) (Nat.le_of_ble_eq_true rfl) (Nat.le_of_ble_eq_true rfl)
      · rw [if_neg c1] at h
        refine x_pick [0, 1, 2, 3] rfl ?_
        exact t_J3_checkFromToIndex_8c36e_14 hls hC hl hE h
theorem c_J3_checkFromToIndex_8c36e (l : Launch) (hls : l.stackTraces = false) {S : mS} {a0 : Int32} {a1 : Int32} {a2 : Int32} {a3 : Nat} {o : Rs Int32} (h : f_J3_checkFromToIndex_8c36e S a0 a1 a2 a3 = some o) : CT (fun r : Int32 => some (.int r)) l yJ3_checkFromToIndex_8c36e (.code yJ3_checkFromToIndex_8c36e cJ3_checkFromToIndex_8c36e 4 (Option.some Jvm.ClassFile.FieldType.int)) rm_J3_checkFromToIndex_8c36e S [.int a0, .int a1, .int a2, .ref a3] o := ct_of (by decide +kernel) hls (Nat.le_of_ble_eq_true rfl) (fun C hl hC hE => t_J3_checkFromToIndex_8c36e hls hC hl hE h)
abbrev rm_J0_checkBoundsBeginEnd_23922 : Room := { frames := 8, cells := 0, slots := 0, locals := 150 }
def f_J0_checkBoundsBeginEnd_23922 (S : mS) (a0 : Int32) (a1 : Int32) (a2 : Int32) : Option (Rs Unit) :=
  none
set_option maxHeartbeats 2000000 in
set_option maxRecDepth 100000 in
theorem t_J0_checkBoundsBeginEnd_23922 {l : Launch} (hls : l.stackTraces = false) {C : cT} (hC : CX C cJ0_checkBoundsBeginEnd_23922 3 yJ0_checkBoundsBeginEnd_23922 rm_J0_checkBoundsBeginEnd_23922) (hl : C.2.1 = l) {S0 : mS} (hE : CE C S0 (Option.none : Option Jvm.ClassFile.FieldType) []) {o : Rs Unit} {S : mS} {a0 : Int32} {a1 : Int32} {a2 : Int32} (h : f_J0_checkBoundsBeginEnd_23922 S a0 a1 a2 = some o) : XX C 3 (QQ C (fun _ : Unit => none) S0 o) 0 0 S 0 [(0, .int a0), (1, .int a1), (2, .int a2)] [] := by
  unfold f_J0_checkBoundsBeginEnd_23922 at h
  refine x_iload_n (pc := 0) hC 0 dJ0_checkBoundsBeginEnd_23922_0 rfl rfl ?_
  refine x_iload_n (pc := 1) hC 1 dJ0_checkBoundsBeginEnd_23922_1 rfl rfl ?_
  refine x_iload_n (pc := 2) hC 2 dJ0_checkBoundsBeginEnd_23922_2 rfl rfl ?_
  cases h
theorem c_J0_checkBoundsBeginEnd_23922 (l : Launch) (hls : l.stackTraces = false) {S : mS} {a0 : Int32} {a1 : Int32} {a2 : Int32} {o : Rs Unit} (h : f_J0_checkBoundsBeginEnd_23922 S a0 a1 a2 = some o) : CT (fun _ : Unit => none) l yJ0_checkBoundsBeginEnd_23922 (.code yJ0_checkBoundsBeginEnd_23922 cJ0_checkBoundsBeginEnd_23922 3 (Option.none : Option Jvm.ClassFile.FieldType)) rm_J0_checkBoundsBeginEnd_23922 S [.int a0, .int a1, .int a2] o := ct_of (by decide +kernel) hls (Nat.le_of_ble_eq_true rfl) (fun C hl hC hE => t_J0_checkBoundsBeginEnd_23922 hls hC hl hE h)
abbrev rm_J2_length_9d52b : Room := { frames := 8, cells := 0, slots := 0, locals := 150 }
def f_J2_length_9d52b (S : mS) (a0 : Nat) : Option (Rs Int32) :=
  gd (gK S a0 = 33) (lt9 (Int32.ofNat (gZ S a0)) fun x2 => lt9 (x2 >>> ((1 : Int32) &&& 31)) fun x3 => some (.inl x3, S))
set_option maxHeartbeats 2000000 in
set_option maxRecDepth 100000 in
theorem t_J2_length_9d52b {l : Launch} (hls : l.stackTraces = false) {C : cT} (hC : CX C cJ2_length_9d52b 1 yJ2_length_9d52b rm_J2_length_9d52b) (hl : C.2.1 = l) {S0 : mS} (hE : CE C S0 (Option.some Jvm.ClassFile.FieldType.int) []) {o : Rs Int32} {S : mS} {a0 : Nat} (h : f_J2_length_9d52b S a0 = some o) : XX C 1 (QQ C (fun r : Int32 => some (.int r)) S0 o) 0 0 S 0 [(0, .ref a0)] [] := by
  unfold f_J2_length_9d52b at h
  refine x_aload_n (pc := 0) hC 0 dJ2_length_9d52b_0 rfl rfl ?_
  obtain ⟨g1, h⟩ := gd_some h
  refine x_alenv (pc := 1) (t0 := 3) hC dJ2_length_9d52b_1 g1 (by decide) (fun _ => rfl) (fun x2 hx2 => ?_)
  replace h := lt_x hx2 h
  refine x_iconst (pc := 2) (v := (1 : Int32)) hC dJ2_length_9d52b_2 (by decide) ?_
  refine x_ishrv (pc := 3) hC dJ2_length_9d52b_3 (fun x3 hx3 => ?_)
  replace h := lt_x hx3 h
  exact x_ireturn (pc := 4) hC hE dJ2_length_9d52b_4 (so h) (Nat.le_of_ble_eq_true rfl) (Nat.le_of_ble_eq_true rfl)
theorem c_J2_length_9d52b (l : Launch) (hls : l.stackTraces = false) {S : mS} {a0 : Nat} {o : Rs Int32} (h : f_J2_length_9d52b S a0 = some o) : CT (fun r : Int32 => some (.int r)) l yJ2_length_9d52b (.code yJ2_length_9d52b cJ2_length_9d52b 1 (Option.some Jvm.ClassFile.FieldType.int)) rm_J2_length_9d52b S [.ref a0] o := ct_of (by decide +kernel) hls (Nat.le_of_ble_eq_true rfl) (fun C hl hC hE => t_J2_length_9d52b hls hC hl hE h)
abbrev rm_J2_checkBoundsBeginEnd_d044e : Room := { frames := 9, cells := 0, slots := 0, locals := 172 }
def f_J2_checkBoundsBeginEnd_d044e (S : mS) (a0 : Int32) (a1 : Int32) (a2 : Nat) : Option (Rs Unit) :=
  bd (f_J2_length_9d52b S a2) fun x1 S2 => bd (f_J0_checkBoundsBeginEnd_23922 S2 a0 a1 x1) fun _ S6 => some (.inl (), S6)
set_option maxHeartbeats 2000000 in
set_option maxRecDepth 100000 in
theorem t_J2_checkBoundsBeginEnd_d044e {l : Launch} (hls : l.stackTraces = false) {C : cT} (hC : CX C cJ2_checkBoundsBeginEnd_d044e 3 yJ2_checkBoundsBeginEnd_d044e rm_J2_checkBoundsBeginEnd_d044e) (hl : C.2.1 = l) {S0 : mS} (hE : CE C S0 (Option.none : Option Jvm.ClassFile.FieldType) []) {o : Rs Unit} {S : mS} {a0 : Int32} {a1 : Int32} {a2 : Nat} (h : f_J2_checkBoundsBeginEnd_d044e S a0 a1 a2 = some o) : XX C 3 (QQ C (fun _ : Unit => none) S0 o) 0 0 S 0 [(0, .int a0), (1, .int a1), (2, .ref a2)] [] := by
  unfold f_J2_checkBoundsBeginEnd_d044e at h
  refine x_iload_n (pc := 0) hC 0 dJ2_checkBoundsBeginEnd_d044e_0 rfl rfl ?_
  refine x_iload_n (pc := 1) hC 1 dJ2_checkBoundsBeginEnd_d044e_1 rfl rfl ?_
  refine x_aload_n (pc := 2) hC 2 dJ2_checkBoundsBeginEnd_d044e_2 rfl rfl ?_
  obtain ⟨o3, ho3, h⟩ := bd_some h
  refine x_callS (pc := 3) (As := [.ref a2]) (rest := [.int a1, .int a0]) hC hl (c_J2_length_9d52b l hls ho3) lk_RJ2_48 dJ2_checkBoundsBeginEnd_d044e_3 rfl rfl (Nat.le_of_ble_eq_true rfl) ⟨Nat.le_of_ble_eq_true rfl, Nat.le_of_ble_eq_true rfl⟩ ⟨(Nat.le_of_ble_eq_true rfl), (Nat.le_of_ble_eq_true rfl)⟩ ?_
  rcases o3 with ⟨x1 | E4, S2⟩
  · refine xk_i ?_
    replace h := bk_l h
    obtain ⟨o7, ho7, h⟩ := bd_some h
    refine x_callS (pc := 6) (As := [.int a0, .int a1, .int x1]) (rest := []) hC hl (c_J0_checkBoundsBeginEnd_23922 l hls ho7) lk_RJ2_241 dJ2_checkBoundsBeginEnd_d044e_6 rfl rfl (Nat.le_of_ble_eq_true rfl) ⟨Nat.le_of_ble_eq_true rfl, Nat.le_of_ble_eq_true rfl⟩ ⟨(Nat.le_of_ble_eq_true rfl), (Nat.le_of_ble_eq_true rfl)⟩ ?_
    rcases o7 with ⟨_ | E8, S6⟩
    · refine xk_v ?_
      replace h := bk_l h
      exact x_vreturn (pc := 9) hC hE dJ2_checkBoundsBeginEnd_d044e_9 (so h) (Nat.le_of_ble_eq_true rfl) (Nat.le_of_ble_eq_true rfl)
    · exact xk_r (xt_out hC hE (bk_r h) (Nat.le_of_ble_eq_true rfl) (Nat.le_of_ble_eq_true rfl))
  · exact xk_r (xt_out hC hE (bk_r h) (Nat.le_of_ble_eq_true rfl) (Nat.le_of_ble_eq_true rfl))
theorem c_J2_checkBoundsBeginEnd_d044e (l : Launch) (hls : l.stackTraces = false) {S : mS} {a0 : Int32} {a1 : Int32} {a2 : Nat} {o : Rs Unit} (h : f_J2_checkBoundsBeginEnd_d044e S a0 a1 a2 = some o) : CT (fun _ : Unit => none) l yJ2_checkBoundsBeginEnd_d044e (.code yJ2_checkBoundsBeginEnd_d044e cJ2_checkBoundsBeginEnd_d044e 3 (Option.none : Option Jvm.ClassFile.FieldType)) rm_J2_checkBoundsBeginEnd_d044e S [.int a0, .int a1, .ref a2] o := ct_of (by decide +kernel) hls (Nat.le_of_ble_eq_true rfl) (fun C hl hC hE => t_J2_checkBoundsBeginEnd_d044e hls hC hl hE h)
abbrev rm_J2_getChar_3b067 : Room := { frames := 8, cells := 0, slots := 0, locals := 150 }
def f_J2_getChar_3b067 (S : mS) (a0 : Nat) (a1 : Int32) : Option (Rs Int32) :=
  none
set_option maxHeartbeats 2000000 in
set_option maxRecDepth 100000 in
theorem t_J2_getChar_3b067 {l : Launch} (hls : l.stackTraces = false) {C : cT} (hC : CX C cJ2_getChar_3b067 2 yJ2_getChar_3b067 rm_J2_getChar_3b067) (hl : C.2.1 = l) {S0 : mS} (hE : CE C S0 (Option.some Jvm.ClassFile.FieldType.char) []) {o : Rs Int32} {S : mS} {a0 : Nat} {a1 : Int32} (h : f_J2_getChar_3b067 S a0 a1 = some o) : XX C 2 (QQ C (fun r : Int32 => some (.int r)) S0 o) 0 0 S 0 [(0, .ref a0), (1, .int a1)] [] := by
  unfold f_J2_getChar_3b067 at h
  cases h
theorem c_J2_getChar_3b067 (l : Launch) (hls : l.stackTraces = false) {S : mS} {a0 : Nat} {a1 : Int32} {o : Rs Int32} (h : f_J2_getChar_3b067 S a0 a1 = some o) : CT (fun r : Int32 => some (.int r)) l yJ2_getChar_3b067 (.code yJ2_getChar_3b067 cJ2_getChar_3b067 2 (Option.some Jvm.ClassFile.FieldType.char)) rm_J2_getChar_3b067 S [.ref a0, .int a1] o := ct_of (by decide +kernel) hls (Nat.le_of_ble_eq_true rfl) (fun C hl hC hE => t_J2_getChar_3b067 hls hC hl hE h)
abbrev rm_J2_indexOfCharUnsafe_4cfef : Room := { frames := 9, cells := 0, slots := 0, locals := 171 }
def f_J2_indexOfCharUnsafe_4cfef_3  : Nat → mS → Nat → Int32 → Int32 → Int32 → Option (Rs Int32)
  | 0, _, _, _, _, _ => none
  | k + 1, S, a0, a1, a3, a4 => if a3 ≤ a4 then (some (.inl (-1 : Int32), S)) else (bd (f_J2_getChar_3b067 S a0 a4) fun x1 S2 => if x1 = a1 then (some (.inl a4, S2)) else (lt9 (a4 + Int32.ofInt (1)) fun x5 => f_J2_indexOfCharUnsafe_4cfef_3 k S2 a0 a1 a3 x5))
set_option maxHeartbeats 2000000 in
set_option maxRecDepth 100000 in
theorem t_J2_indexOfCharUnsafe_4cfef_3 {l : Launch} (hls : l.stackTraces = false) {C : cT} (hC : CX C cJ2_indexOfCharUnsafe_4cfef 5 yJ2_indexOfCharUnsafe_4cfef rm_J2_indexOfCharUnsafe_4cfef) (hl : C.2.1 = l) {S0 : mS} (hE : CE C S0 (Option.some Jvm.ClassFile.FieldType.int) []) {o : Rs Int32} : ∀ (k : Nat) (S : mS) (a0 : Nat) (a1 : Int32) (a3 : Int32) (a4 : Int32), f_J2_indexOfCharUnsafe_4cfef_3  k S a0 a1 a3 a4 = some o → XX C 5 (QQ C (fun r : Int32 => some (.int r)) S0 o) (0) (0) S 3 [(0, .ref a0), (1, .int a1), (3, .int a3), (4, .int a4)] [] := by
  intro k
  induction k with
  | zero => intro S a0 a1 a3 a4 h; cases h
  | succ k ih =>
    intro S a0 a1 a3 a4 h
    unfold f_J2_indexOfCharUnsafe_4cfef_3 at h
    refine x_iload (pc := 3) hC 3 dJ2_indexOfCharUnsafe_4cfef_3 rfl ?_
    refine x_iload_n (pc := 5) hC 2 dJ2_indexOfCharUnsafe_4cfef_5 rfl rfl ?_
    refine x_icmp_ge (pc := 6) hC 28 dJ2_indexOfCharUnsafe_4cfef_6 (by decide) (fun c7 => ?_) (fun c7 => ?_)
    · rw [if_pos c7] at h
      refine x_iconst (pc := 28) (v := (-1 : Int32)) hC dJ2_indexOfCharUnsafe_4cfef_28 (by decide) ?_
      exact x_ireturn (pc := 29) hC hE dJ2_indexOfCharUnsafe_4cfef_29 (so h) (Nat.le_of_ble_eq_true rfl) (Nat.le_of_ble_eq_true rfl)
    · rw [if_neg c7] at h
      refine x_aload_n (pc := 9) hC 0 dJ2_indexOfCharUnsafe_4cfef_9 rfl rfl ?_
      refine x_iload (pc := 10) hC 3 dJ2_indexOfCharUnsafe_4cfef_10 rfl ?_
      obtain ⟨o3, ho3, h⟩ := bd_some h
      refine x_callS (pc := 12) (As := [.ref a0, .int a4]) (rest := []) hC hl (c_J2_getChar_3b067 l hls ho3) lk_RJ2_71 dJ2_indexOfCharUnsafe_4cfef_12 rfl rfl (Nat.le_of_ble_eq_true rfl) ⟨Nat.le_of_ble_eq_true rfl, Nat.le_of_ble_eq_true rfl⟩ ⟨(Nat.le_of_ble_eq_true rfl), (Nat.le_of_ble_eq_true rfl)⟩ ?_
      rcases o3 with ⟨x1 | E4, S2⟩
      · refine xk_i ?_
        replace h := bk_l h
        refine x_iload_n (pc := 15) hC 1 dJ2_indexOfCharUnsafe_4cfef_15 rfl rfl ?_
        refine x_icmp_ne (pc := 16) hC 22 dJ2_indexOfCharUnsafe_4cfef_16 (by decide) (fun c6 => ?_) (fun c6 => ?_)
        · rw [if_neg c6] at h
          obtain ⟨x5, hx5⟩ : ∃ z, z = (a4 + Int32.ofInt (1)) := ⟨_, rfl⟩
          replace h := lt_x hx5 h
          refine x_iinc (pc := 22) hC 3 dJ2_indexOfCharUnsafe_4cfef_22 rfl hx5.symm (by decide) (by decide) rfl ?_
          refine x_goto (pc := 25) hC 3 dJ2_indexOfCharUnsafe_4cfef_25 (by decide) ?_
          refine x_pick [1, 2, 3, 0] rfl ?_
          exact ih _ _ _ _ _ h
        · rw [if_pos c6] at h
          refine x_iload (pc := 19) hC 3 dJ2_indexOfCharUnsafe_4cfef_19 rfl ?_
          exact x_ireturn (pc := 21) hC hE dJ2_indexOfCharUnsafe_4cfef_21 (so h) (Nat.le_of_ble_eq_true rfl) (Nat.le_of_ble_eq_true rfl)
      · exact xk_r (xt_out hC hE (bk_r h) (Nat.le_of_ble_eq_true rfl) (Nat.le_of_ble_eq_true rfl))
def f_J2_indexOfCharUnsafe_4cfef (S : mS) (a0 : Nat) (a1 : Int32) (a2 : Int32) (a3 : Int32) : Option (Rs Int32) :=
  f_J2_indexOfCharUnsafe_4cfef_3  16 S a0 a1 a3 a2
set_option maxHeartbeats 2000000 in
set_option maxRecDepth 100000 in
theorem t_J2_indexOfCharUnsafe_4cfef {l : Launch} (hls : l.stackTraces = false) {C : cT} (hC : CX C cJ2_indexOfCharUnsafe_4cfef 5 yJ2_indexOfCharUnsafe_4cfef rm_J2_indexOfCharUnsafe_4cfef) (hl : C.2.1 = l) {S0 : mS} (hE : CE C S0 (Option.some Jvm.ClassFile.FieldType.int) []) {o : Rs Int32} {S : mS} {a0 : Nat} {a1 : Int32} {a2 : Int32} {a3 : Int32} (h : f_J2_indexOfCharUnsafe_4cfef S a0 a1 a2 a3 = some o) : XX C 5 (QQ C (fun r : Int32 => some (.int r)) S0 o) 0 0 S 0 [(0, .ref a0), (1, .int a1), (2, .int a2), (3, .int a3)] [] := by
  unfold f_J2_indexOfCharUnsafe_4cfef at h
  refine x_iload_n (pc := 0) hC 2 dJ2_indexOfCharUnsafe_4cfef_0 rfl rfl ?_
  refine x_istore (pc := 1) hC dJ2_indexOfCharUnsafe_4cfef_1 (by decide) (by decide) rfl ?_
  refine x_pick [1, 2, 4, 0] rfl ?_
  exact t_J2_indexOfCharUnsafe_4cfef_3 hls hC hl hE 16 _ _ _ _ _ h
theorem c_J2_indexOfCharUnsafe_4cfef (l : Launch) (hls : l.stackTraces = false) {S : mS} {a0 : Nat} {a1 : Int32} {a2 : Int32} {a3 : Int32} {o : Rs Int32} (h : f_J2_indexOfCharUnsafe_4cfef S a0 a1 a2 a3 = some o) : CT (fun r : Int32 => some (.int r)) l yJ2_indexOfCharUnsafe_4cfef (.code yJ2_indexOfCharUnsafe_4cfef cJ2_indexOfCharUnsafe_4cfef 5 (Option.some Jvm.ClassFile.FieldType.int)) rm_J2_indexOfCharUnsafe_4cfef S [.ref a0, .int a1, .int a2, .int a3] o := ct_of (by decide +kernel) hls (Nat.le_of_ble_eq_true rfl) (fun C hl hC hE => t_J2_indexOfCharUnsafe_4cfef hls hC hl hE h)
abbrev rm_J2_indexOfChar_4cfef : Room := { frames := 10, cells := 0, slots := 0, locals := 195 }
def f_J2_indexOfChar_4cfef (S : mS) (a0 : Nat) (a1 : Int32) (a2 : Int32) (a3 : Int32) : Option (Rs Int32) :=
  bd (f_J2_checkBoundsBeginEnd_d044e S a2 a3 a0) fun _ S2 => bd (f_J2_indexOfCharUnsafe_4cfef S2 a0 a1 a2 a3) fun x5 S6 => some (.inl x5, S6)
set_option maxHeartbeats 2000000 in
set_option maxRecDepth 100000 in
theorem t_J2_indexOfChar_4cfef {l : Launch} (hls : l.stackTraces = false) {C : cT} (hC : CX C cJ2_indexOfChar_4cfef 4 yJ2_indexOfChar_4cfef rm_J2_indexOfChar_4cfef) (hl : C.2.1 = l) {S0 : mS} (hE : CE C S0 (Option.some Jvm.ClassFile.FieldType.int) []) {o : Rs Int32} {S : mS} {a0 : Nat} {a1 : Int32} {a2 : Int32} {a3 : Int32} (h : f_J2_indexOfChar_4cfef S a0 a1 a2 a3 = some o) : XX C 4 (QQ C (fun r : Int32 => some (.int r)) S0 o) 0 0 S 0 [(0, .ref a0), (1, .int a1), (2, .int a2), (3, .int a3)] [] := by
  unfold f_J2_indexOfChar_4cfef at h
  refine x_iload_n (pc := 0) hC 2 dJ2_indexOfChar_4cfef_0 rfl rfl ?_
  refine x_iload_n (pc := 1) hC 3 dJ2_indexOfChar_4cfef_1 rfl rfl ?_
  refine x_aload_n (pc := 2) hC 0 dJ2_indexOfChar_4cfef_2 rfl rfl ?_
  obtain ⟨o3, ho3, h⟩ := bd_some h
  refine x_callS (pc := 3) (As := [.int a2, .int a3, .ref a0]) (rest := []) hC hl (c_J2_checkBoundsBeginEnd_d044e l hls ho3) lk_RJ2_96 dJ2_indexOfChar_4cfef_3 rfl rfl (Nat.le_of_ble_eq_true rfl) ⟨Nat.le_of_ble_eq_true rfl, Nat.le_of_ble_eq_true rfl⟩ ⟨(Nat.le_of_ble_eq_true rfl), (Nat.le_of_ble_eq_true rfl)⟩ ?_
  rcases o3 with ⟨_ | E4, S2⟩
  · refine xk_v ?_
    replace h := bk_l h
    refine x_aload_n (pc := 6) hC 0 dJ2_indexOfChar_4cfef_6 rfl rfl ?_
    refine x_iload_n (pc := 7) hC 1 dJ2_indexOfChar_4cfef_7 rfl rfl ?_
    refine x_iload_n (pc := 8) hC 2 dJ2_indexOfChar_4cfef_8 rfl rfl ?_
    refine x_iload_n (pc := 9) hC 3 dJ2_indexOfChar_4cfef_9 rfl rfl ?_
    obtain ⟨o7, ho7, h⟩ := bd_some h
    refine x_callS (pc := 10) (As := [.ref a0, .int a1, .int a2, .int a3]) (rest := []) hC hl (c_J2_indexOfCharUnsafe_4cfef l hls ho7) lk_RJ2_244 dJ2_indexOfChar_4cfef_10 rfl rfl (Nat.le_of_ble_eq_true rfl) ⟨Nat.le_of_ble_eq_true rfl, Nat.le_of_ble_eq_true rfl⟩ ⟨(Nat.le_of_ble_eq_true rfl), (Nat.le_of_ble_eq_true rfl)⟩ ?_
    rcases o7 with ⟨x5 | E8, S6⟩
    · refine xk_i ?_
      replace h := bk_l h
      exact x_ireturn (pc := 13) hC hE dJ2_indexOfChar_4cfef_13 (so h) (Nat.le_of_ble_eq_true rfl) (Nat.le_of_ble_eq_true rfl)
    · exact xk_r (xt_out hC hE (bk_r h) (Nat.le_of_ble_eq_true rfl) (Nat.le_of_ble_eq_true rfl))
  · exact xk_r (xt_out hC hE (bk_r h) (Nat.le_of_ble_eq_true rfl) (Nat.le_of_ble_eq_true rfl))
theorem c_J2_indexOfChar_4cfef (l : Launch) (hls : l.stackTraces = false) {S : mS} {a0 : Nat} {a1 : Int32} {a2 : Int32} {a3 : Int32} {o : Rs Int32} (h : f_J2_indexOfChar_4cfef S a0 a1 a2 a3 = some o) : CT (fun r : Int32 => some (.int r)) l yJ2_indexOfChar_4cfef (.code yJ2_indexOfChar_4cfef cJ2_indexOfChar_4cfef 4 (Option.some Jvm.ClassFile.FieldType.int)) rm_J2_indexOfChar_4cfef S [.ref a0, .int a1, .int a2, .int a3] o := ct_of (by decide +kernel) hls (Nat.le_of_ble_eq_true rfl) (fun C hl hC hE => t_J2_indexOfChar_4cfef hls hC hl hE h)
abbrev rm_J11_highSurrogate_5068e : Room := { frames := 8, cells := 0, slots := 0, locals := 150 }
def f_J11_highSurrogate_5068e (S : mS) (a0 : Int32) : Option (Rs Int32) :=
  none
set_option maxHeartbeats 2000000 in
set_option maxRecDepth 100000 in
theorem t_J11_highSurrogate_5068e {l : Launch} (hls : l.stackTraces = false) {C : cT} (hC : CX C cJ11_highSurrogate_5068e 1 yJ11_highSurrogate_5068e rm_J11_highSurrogate_5068e) (hl : C.2.1 = l) {S0 : mS} (hE : CE C S0 (Option.some Jvm.ClassFile.FieldType.char) []) {o : Rs Int32} {S : mS} {a0 : Int32} (h : f_J11_highSurrogate_5068e S a0 = some o) : XX C 1 (QQ C (fun r : Int32 => some (.int r)) S0 o) 0 0 S 0 [(0, .int a0)] [] := by
  unfold f_J11_highSurrogate_5068e at h
  refine x_iload_n (pc := 0) hC 0 dJ11_highSurrogate_5068e_0 rfl rfl ?_
  refine x_bipush (pc := 1) (v := (10 : Int32)) hC dJ11_highSurrogate_5068e_1 (by decide) ?_
  cases h
theorem c_J11_highSurrogate_5068e (l : Launch) (hls : l.stackTraces = false) {S : mS} {a0 : Int32} {o : Rs Int32} (h : f_J11_highSurrogate_5068e S a0 = some o) : CT (fun r : Int32 => some (.int r)) l yJ11_highSurrogate_5068e (.code yJ11_highSurrogate_5068e cJ11_highSurrogate_5068e 1 (Option.some Jvm.ClassFile.FieldType.char)) rm_J11_highSurrogate_5068e S [.int a0] o := ct_of (by decide +kernel) hls (Nat.le_of_ble_eq_true rfl) (fun C hl hC hE => t_J11_highSurrogate_5068e hls hC hl hE h)
abbrev rm_J11_isValidCodePoint_9a6ad : Room := { frames := 8, cells := 0, slots := 0, locals := 150 }
def f_J11_isValidCodePoint_9a6ad (S : mS) (a0 : Int32) : Option (Rs Int32) :=
  none
set_option maxHeartbeats 2000000 in
set_option maxRecDepth 100000 in
theorem t_J11_isValidCodePoint_9a6ad {l : Launch} (hls : l.stackTraces = false) {C : cT} (hC : CX C cJ11_isValidCodePoint_9a6ad 2 yJ11_isValidCodePoint_9a6ad rm_J11_isValidCodePoint_9a6ad) (hl : C.2.1 = l) {S0 : mS} (hE : CE C S0 (Option.some Jvm.ClassFile.FieldType.boolean) []) {o : Rs Int32} {S : mS} {a0 : Int32} (h : f_J11_isValidCodePoint_9a6ad S a0 = some o) : XX C 2 (QQ C (fun r : Int32 => some (.int r)) S0 o) 0 0 S 0 [(0, .int a0)] [] := by
  unfold f_J11_isValidCodePoint_9a6ad at h
  refine x_iload_n (pc := 0) hC 0 dJ11_isValidCodePoint_9a6ad_0 rfl rfl ?_
  refine x_bipush (pc := 1) (v := (16 : Int32)) hC dJ11_isValidCodePoint_9a6ad_1 (by decide) ?_
  cases h
theorem c_J11_isValidCodePoint_9a6ad (l : Launch) (hls : l.stackTraces = false) {S : mS} {a0 : Int32} {o : Rs Int32} (h : f_J11_isValidCodePoint_9a6ad S a0 = some o) : CT (fun r : Int32 => some (.int r)) l yJ11_isValidCodePoint_9a6ad (.code yJ11_isValidCodePoint_9a6ad cJ11_isValidCodePoint_9a6ad 2 (Option.some Jvm.ClassFile.FieldType.boolean)) rm_J11_isValidCodePoint_9a6ad S [.int a0] o := ct_of (by decide +kernel) hls (Nat.le_of_ble_eq_true rfl) (fun C hl hC hE => t_J11_isValidCodePoint_9a6ad hls hC hl hE h)
abbrev rm_J11_lowSurrogate_5068e : Room := { frames := 8, cells := 0, slots := 0, locals := 150 }
def f_J11_lowSurrogate_5068e (S : mS) (a0 : Int32) : Option (Rs Int32) :=
  lt9 (a0 &&& (1023 : Int32)) fun x1 => lt9 (x1 + (56320 : Int32)) fun x2 => lt9 (((x2).toUInt32 % 65536).toInt32) fun x3 => gd ((x3.toUInt32.toUInt16.toUInt32.toInt32 = x3 ∧ 0 ≤ x3) ∧ x3 ≤ 65535) (some (.inl x3, S))
set_option maxHeartbeats 2000000 in
set_option maxRecDepth 100000 in
theorem t_J11_lowSurrogate_5068e {l : Launch} (hls : l.stackTraces = false) {C : cT} (hC : CX C cJ11_lowSurrogate_5068e 1 yJ11_lowSurrogate_5068e rm_J11_lowSurrogate_5068e) (hl : C.2.1 = l) {S0 : mS} (hE : CE C S0 (Option.some Jvm.ClassFile.FieldType.char) []) {o : Rs Int32} {S : mS} {a0 : Int32} (h : f_J11_lowSurrogate_5068e S a0 = some o) : XX C 1 (QQ C (fun r : Int32 => some (.int r)) S0 o) 0 0 S 0 [(0, .int a0)] [] := by
  unfold f_J11_lowSurrogate_5068e at h
  refine x_iload_n (pc := 0) hC 0 dJ11_lowSurrogate_5068e_0 rfl rfl ?_
  refine x_sipush (pc := 1) (v := (1023 : Int32)) hC dJ11_lowSurrogate_5068e_1 (by decide) ?_
  refine x_iandv (pc := 4) hC dJ11_lowSurrogate_5068e_4 (fun x1 hx1 => ?_)
  replace h := lt_x hx1 h
  refine x_ldc (pc := 5) hC wm_2106 dJ11_lowSurrogate_5068e_5 ?_
  refine x_iaddv (pc := 7) hC dJ11_lowSurrogate_5068e_7 (fun x2 hx2 => ?_)
  replace h := lt_x hx2 h
  refine x_i2cv (pc := 8) hC dJ11_lowSurrogate_5068e_8 (fun x3 hx3 => ?_)
  replace h := lt_x hx3 h
  obtain ⟨g4, h⟩ := gd_some h
  exact x_zreturn (pc := 9) hC hE dJ11_lowSurrogate_5068e_9 (nf_C g4).1 (so h) (Nat.le_of_ble_eq_true rfl) (Nat.le_of_ble_eq_true rfl)
theorem c_J11_lowSurrogate_5068e (l : Launch) (hls : l.stackTraces = false) {S : mS} {a0 : Int32} {o : Rs Int32} (h : f_J11_lowSurrogate_5068e S a0 = some o) : CT (fun r : Int32 => some (.int r)) l yJ11_lowSurrogate_5068e (.code yJ11_lowSurrogate_5068e cJ11_lowSurrogate_5068e 1 (Option.some Jvm.ClassFile.FieldType.char)) rm_J11_lowSurrogate_5068e S [.int a0] o := ct_of (by decide +kernel) hls (Nat.le_of_ble_eq_true rfl) (fun C hl hC hE => t_J11_lowSurrogate_5068e hls hC hl hE h)
abbrev rm_J2_indexOfSupplementary_4cfef : Room := { frames := 10, cells := 0, slots := 0, locals := 194 }
def f_J2_indexOfSupplementary_4cfef_69  (S : mS) : Option (Rs Int32) :=
  some (.inl (-1 : Int32), S)
set_option maxHeartbeats 2000000 in
set_option maxRecDepth 100000 in
theorem t_J2_indexOfSupplementary_4cfef_69 {l : Launch} (hls : l.stackTraces = false) {C : cT} (hC : CX C cJ2_indexOfSupplementary_4cfef 7 yJ2_indexOfSupplementary_4cfef rm_J2_indexOfSupplementary_4cfef) (hl : C.2.1 = l) {S0 : mS} (hE : CE C S0 (Option.some Jvm.ClassFile.FieldType.int) []) {o : Rs Int32} {S : mS} (h : f_J2_indexOfSupplementary_4cfef_69  S = some o) : XX C 7 (QQ C (fun r : Int32 => some (.int r)) S0 o) (0) (0) S 69 [] [] := by
  unfold f_J2_indexOfSupplementary_4cfef_69 at h
  refine x_iconst (pc := 69) (v := (-1 : Int32)) hC dJ2_indexOfSupplementary_4cfef_69 (by decide) ?_
  exact x_ireturn (pc := 70) hC hE dJ2_indexOfSupplementary_4cfef_70 (so h) (Nat.le_of_ble_eq_true rfl) (Nat.le_of_ble_eq_true rfl)
def f_J2_indexOfSupplementary_4cfef_63 (rc28 : mS → Nat → Int32 → Int32 → Int32 → Int32 → Option (Rs Int32)) (S : mS) (a0 : Nat) (a3 : Int32) (a4 : Int32) (a5 : Int32) (a6 : Int32) : Option (Rs Int32) :=
  lt9 (a6 + Int32.ofInt (1)) fun x1 => rc28 S a0 a3 a4 a5 x1
set_option maxHeartbeats 2000000 in
set_option maxRecDepth 100000 in
theorem t_J2_indexOfSupplementary_4cfef_63 {l : Launch} (hls : l.stackTraces = false) {C : cT} (hC : CX C cJ2_indexOfSupplementary_4cfef 7 yJ2_indexOfSupplementary_4cfef rm_J2_indexOfSupplementary_4cfef) (hl : C.2.1 = l) {S0 : mS} (hE : CE C S0 (Option.some Jvm.ClassFile.FieldType.int) []) {o : Rs Int32} {rc28 : mS → Nat → Int32 → Int32 → Int32 → Int32 → Option (Rs Int32)} (hrc28 : ∀ (S : mS) (a0 : Nat) (a3 : Int32) (a4 : Int32) (a5 : Int32) (a6 : Int32), rc28 S a0 a3 a4 a5 a6 = some o → XX C 7 (QQ C (fun r : Int32 => some (.int r)) S0 o) (0) (0) S 28 [(0, .ref a0), (3, .int a3), (4, .int a4), (5, .int a5), (6, .int a6)] []) {S : mS} {a0 : Nat} {a3 : Int32} {a4 : Int32} {a5 : Int32} {a6 : Int32} (h : f_J2_indexOfSupplementary_4cfef_63 rc28 S a0 a3 a4 a5 a6 = some o) : XX C 7 (QQ C (fun r : Int32 => some (.int r)) S0 o) (0) (0) S 63 [(0, .ref a0), (3, .int a3), (4, .int a4), (5, .int a5), (6, .int a6)] [] := by
  unfold f_J2_indexOfSupplementary_4cfef_63 at h
  obtain ⟨x1, hx1⟩ : ∃ z, z = (a6 + Int32.ofInt (1)) := ⟨_, rfl⟩
  replace h := lt_x hx1 h
  refine x_iinc (pc := 63) hC 4 dJ2_indexOfSupplementary_4cfef_63 rfl hx1.symm (by decide) (by decide) rfl ?_
  refine x_goto (pc := 66) hC 28 dJ2_indexOfSupplementary_4cfef_66 (by decide) ?_
  refine x_pick [1, 2, 3, 4, 0] rfl ?_
  exact hrc28 _ _ _ _ _ _ h
def f_J2_indexOfSupplementary_4cfef_28  : Nat → mS → Nat → Int32 → Int32 → Int32 → Int32 → Option (Rs Int32)
  | 0, _, _, _, _, _, _ => none
  | k + 1, S, a0, a3, a4, a5, a6 => lt9 (a3 - (1 : Int32)) fun x1 => if x1 ≤ a6 then (f_J2_indexOfSupplementary_4cfef_69  S) else (bd (f_J2_getChar_3b067 S a0 a6) fun x2 S3 => if x2 = a4 then (lt9 (a6 + (1 : Int32)) fun x6 => bd (f_J2_getChar_3b067 S3 a0 x6) fun x7 S8 => if x7 = a5 then (some (.inl a6, S8)) else (f_J2_indexOfSupplementary_4cfef_63 (f_J2_indexOfSupplementary_4cfef_28 k) S8 a0 a3 a4 a5 a6)) else (f_J2_indexOfSupplementary_4cfef_63 (f_J2_indexOfSupplementary_4cfef_28 k) S3 a0 a3 a4 a5 a6))
set_option maxHeartbeats 2000000 in
set_option maxRecDepth 100000 in
theorem t_J2_indexOfSupplementary_4cfef_28 {l : Launch} (hls : l.stackTraces = false) {C : cT} (hC : CX C cJ2_indexOfSupplementary_4cfef 7 yJ2_indexOfSupplementary_4cfef rm_J2_indexOfSupplementary_4cfef) (hl : C.2.1 = l) {S0 : mS} (hE : CE C S0 (Option.some Jvm.ClassFile.FieldType.int) []) {o : Rs Int32} : ∀ (k : Nat) (S : mS) (a0 : Nat) (a3 : Int32) (a4 : Int32) (a5 : Int32) (a6 : Int32), f_J2_indexOfSupplementary_4cfef_28  k S a0 a3 a4 a5 a6 = some o → XX C 7 (QQ C (fun r : Int32 => some (.int r)) S0 o) (0) (0) S 28 [(0, .ref a0), (3, .int a3), (4, .int a4), (5, .int a5), (6, .int a6)] [] := by
  intro k
  induction k with
  | zero => intro S a0 a3 a4 a5 a6 h; cases h
  | succ k ih =>
    intro S a0 a3 a4 a5 a6 h
    unfold f_J2_indexOfSupplementary_4cfef_28 at h
    refine x_iload (pc := 28) hC 4 dJ2_indexOfSupplementary_4cfef_28 rfl ?_
    refine x_iload_n (pc := 30) hC 1 dJ2_indexOfSupplementary_4cfef_30 rfl rfl ?_
    refine x_iconst (pc := 31) (v := (1 : Int32)) hC dJ2_indexOfSupplementary_4cfef_31 (by decide) ?_
    refine x_isubv (pc := 32) hC dJ2_indexOfSupplementary_4cfef_32 (fun x1 hx1 => ?_)
    replace h := lt_x hx1 h
    refine x_icmp_ge (pc := 33) hC 69 dJ2_indexOfSupplementary_4cfef_33 (by decide) (fun c13 => ?_) (fun c13 => ?_)
    · rw [if_pos c13] at h
      refine x_pick [] rfl ?_
      exact t_J2_indexOfSupplementary_4cfef_69 hls hC hl hE h
    · rw [if_neg c13] at h
      refine x_aload_n (pc := 36) hC 0 dJ2_indexOfSupplementary_4cfef_36 rfl rfl ?_
      refine x_iload (pc := 37) hC 4 dJ2_indexOfSupplementary_4cfef_37 rfl ?_
      obtain ⟨o4, ho4, h⟩ := bd_some h
      refine x_callS (pc := 39) (As := [.ref a0, .int a6]) (rest := []) hC hl (c_J2_getChar_3b067 l hls ho4) lk_RJ2_71 dJ2_indexOfSupplementary_4cfef_39 rfl rfl (Nat.le_of_ble_eq_true rfl) ⟨Nat.le_of_ble_eq_true rfl, Nat.le_of_ble_eq_true rfl⟩ ⟨(Nat.le_of_ble_eq_true rfl), (Nat.le_of_ble_eq_true rfl)⟩ ?_
      rcases o4 with ⟨x2 | E5, S3⟩
      · refine xk_i ?_
        replace h := bk_l h
        refine x_iload (pc := 42) hC 2 dJ2_indexOfSupplementary_4cfef_42 rfl ?_
        refine x_icmp_ne (pc := 44) hC 63 dJ2_indexOfSupplementary_4cfef_44 (by decide) (fun c12 => ?_) (fun c12 => ?_)
        · rw [if_neg c12] at h
          refine x_pick [0, 1, 2, 3, 4] rfl ?_
          exact t_J2_indexOfSupplementary_4cfef_63 hls hC hl hE (fun z0 z1 z2 z3 z4 z5 hz => ih z0 z1 z2 z3 z4 z5 hz) h
        · rw [if_pos c12] at h
          refine x_aload_n (pc := 47) hC 0 dJ2_indexOfSupplementary_4cfef_47 rfl rfl ?_
          refine x_iload (pc := 48) hC 4 dJ2_indexOfSupplementary_4cfef_48 rfl ?_
          refine x_iconst (pc := 50) (v := (1 : Int32)) hC dJ2_indexOfSupplementary_4cfef_50 (by decide) ?_
          refine x_iaddv (pc := 51) hC dJ2_indexOfSupplementary_4cfef_51 (fun x6 hx6 => ?_)
          replace h := lt_x hx6 h
          obtain ⟨o9, ho9, h⟩ := bd_some h
          refine x_callS (pc := 52) (As := [.ref a0, .int x6]) (rest := []) hC hl (c_J2_getChar_3b067 l hls ho9) lk_RJ2_71 dJ2_indexOfSupplementary_4cfef_52 rfl rfl (Nat.le_of_ble_eq_true rfl) ⟨Nat.le_of_ble_eq_true rfl, Nat.le_of_ble_eq_true rfl⟩ ⟨(Nat.le_of_ble_eq_true rfl), (Nat.le_of_ble_eq_true rfl)⟩ ?_
          rcases o9 with ⟨x7 | E10, S8⟩
          · refine xk_i ?_
            replace h := bk_l h
            refine x_iload (pc := 55) hC 3 dJ2_indexOfSupplementary_4cfef_55 rfl ?_
            refine x_icmp_ne (pc := 57) hC 63 dJ2_indexOfSupplementary_4cfef_57 (by decide) (fun c11 => ?_) (fun c11 => ?_)
            · rw [if_neg c11] at h
              refine x_pick [0, 1, 2, 3, 4] rfl ?_
              exact t_J2_indexOfSupplementary_4cfef_63 hls hC hl hE (fun z0 z1 z2 z3 z4 z5 hz => ih z0 z1 z2 z3 z4 z5 hz) h
            · rw [if_pos c11] at h
              refine x_iload (pc := 60) hC 4 dJ2_indexOfSupplementary_4cfef_60 rfl ?_
              exact x_ireturn (pc := 62) hC hE dJ2_indexOfSupplementary_4cfef_62 (so h) (Nat.le_of_ble_eq_true rfl) (Nat.le_of_ble_eq_true rfl)
          · exact xk_r (xt_out hC hE (bk_r h) (Nat.le_of_ble_eq_true rfl) (Nat.le_of_ble_eq_true rfl))
      · exact xk_r (xt_out hC hE (bk_r h) (Nat.le_of_ble_eq_true rfl) (Nat.le_of_ble_eq_true rfl))
def f_J2_indexOfSupplementary_4cfef (S : mS) (a0 : Nat) (a1 : Int32) (a2 : Int32) (a3 : Int32) : Option (Rs Int32) :=
  bd (f_J11_isValidCodePoint_9a6ad S a1) fun x1 S2 => if x1 = 0 then (f_J2_indexOfSupplementary_4cfef_69  S2) else (bd (f_J11_highSurrogate_5068e S2 a1) fun x5 S6 => bd (f_J11_lowSurrogate_5068e S6 a1) fun x9 S10 => bd (f_J2_checkBoundsBeginEnd_d044e S10 a2 a3 a0) fun _ S14 => f_J2_indexOfSupplementary_4cfef_28  16 S14 a0 a3 x5 x9 a2)
set_option maxHeartbeats 2000000 in
set_option maxRecDepth 100000 in
theorem t_J2_indexOfSupplementary_4cfef {l : Launch} (hls : l.stackTraces = false) {C : cT} (hC : CX C cJ2_indexOfSupplementary_4cfef 7 yJ2_indexOfSupplementary_4cfef rm_J2_indexOfSupplementary_4cfef) (hl : C.2.1 = l) {S0 : mS} (hE : CE C S0 (Option.some Jvm.ClassFile.FieldType.int) []) {o : Rs Int32} {S : mS} {a0 : Nat} {a1 : Int32} {a2 : Int32} {a3 : Int32} (h : f_J2_indexOfSupplementary_4cfef S a0 a1 a2 a3 = some o) : XX C 7 (QQ C (fun r : Int32 => some (.int r)) S0 o) 0 0 S 0 [(0, .ref a0), (1, .int a1), (2, .int a2), (3, .int a3)] [] := by
  unfold f_J2_indexOfSupplementary_4cfef at h
  refine x_iload_n (pc := 0) hC 1 dJ2_indexOfSupplementary_4cfef_0 rfl rfl ?_
  obtain ⟨o3, ho3, h⟩ := bd_some h
  refine x_callS (pc := 1) (As := [.int a1]) (rest := []) hC hl (c_J11_isValidCodePoint_9a6ad l hls ho3) lk_RJ2_164 dJ2_indexOfSupplementary_4cfef_1 rfl rfl (Nat.le_of_ble_eq_true rfl) ⟨Nat.le_of_ble_eq_true rfl, Nat.le_of_ble_eq_true rfl⟩ ⟨(Nat.le_of_ble_eq_true rfl), (Nat.le_of_ble_eq_true rfl)⟩ ?_
  rcases o3 with ⟨x1 | E4, S2⟩
  · refine xk_i ?_
    replace h := bk_l h
    refine x_if_eq (pc := 4) hC 69 dJ2_indexOfSupplementary_4cfef_4 (by decide) (fun c17 => ?_) (fun c17 => ?_)
    · rw [if_pos c17] at h
      refine x_pick [] rfl ?_
      exact t_J2_indexOfSupplementary_4cfef_69 hls hC hl hE h
    · rw [if_neg c17] at h
      refine x_iload_n (pc := 7) hC 1 dJ2_indexOfSupplementary_4cfef_7 rfl rfl ?_
      obtain ⟨o7, ho7, h⟩ := bd_some h
      refine x_callS (pc := 8) (As := [.int a1]) (rest := []) hC hl (c_J11_highSurrogate_5068e l hls ho7) lk_RJ2_157 dJ2_indexOfSupplementary_4cfef_8 rfl rfl (Nat.le_of_ble_eq_true rfl) ⟨Nat.le_of_ble_eq_true rfl, Nat.le_of_ble_eq_true rfl⟩ ⟨(Nat.le_of_ble_eq_true rfl), (Nat.le_of_ble_eq_true rfl)⟩ ?_
      rcases o7 with ⟨x5 | E8, S6⟩
      · refine xk_i ?_
        replace h := bk_l h
        refine x_istore (pc := 11) hC dJ2_indexOfSupplementary_4cfef_11 (by decide) (by decide) rfl ?_
        refine x_iload_n (pc := 13) hC 2 dJ2_indexOfSupplementary_4cfef_13 rfl rfl ?_
        obtain ⟨o11, ho11, h⟩ := bd_some h
        refine x_callS (pc := 14) (As := [.int a1]) (rest := []) hC hl (c_J11_lowSurrogate_5068e l hls ho11) lk_RJ2_161 dJ2_indexOfSupplementary_4cfef_14 rfl rfl (Nat.le_of_ble_eq_true rfl) ⟨Nat.le_of_ble_eq_true rfl, Nat.le_of_ble_eq_true rfl⟩ ⟨(Nat.le_of_ble_eq_true rfl), (Nat.le_of_ble_eq_true rfl)⟩ ?_
        rcases o11 with ⟨x9 | E12, S10⟩
        · refine xk_i ?_
          replace h := bk_l h
          refine x_istore (pc := 17) hC dJ2_indexOfSupplementary_4cfef_17 (by decide) (by decide) rfl ?_
          refine x_iload_n (pc := 19) hC 4 dJ2_indexOfSupplementary_4cfef_19 rfl rfl ?_
          refine x_iload_n (pc := 20) hC 5 dJ2_indexOfSupplementary_4cfef_20 rfl rfl ?_
          refine x_aload_n (pc := 21) hC 2 dJ2_indexOfSupplementary_4cfef_21 rfl rfl ?_
          obtain ⟨o15, ho15, h⟩ := bd_some h
          refine x_callS (pc := 22) (As := [.int a2, .int a3, .ref a0]) (rest := []) hC hl (c_J2_checkBoundsBeginEnd_d044e l hls ho15) lk_RJ2_96 dJ2_indexOfSupplementary_4cfef_22 rfl rfl (Nat.le_of_ble_eq_true rfl) ⟨Nat.le_of_ble_eq_true rfl, Nat.le_of_ble_eq_true rfl⟩ ⟨(Nat.le_of_ble_eq_true rfl), (Nat.le_of_ble_eq_true rfl)⟩ ?_
          rcases o15 with ⟨_ | E16, S14⟩
          · refine xk_v ?_
            replace h := bk_l h
            refine x_iload_n (pc := 25) hC 4 dJ2_indexOfSupplementary_4cfef_25 rfl rfl ?_
            refine x_istore (pc := 26) hC dJ2_indexOfSupplementary_4cfef_26 (by decide) (by decide) rfl ?_
            refine x_pick [3, 6, 2, 1, 0] rfl ?_
            exact t_J2_indexOfSupplementary_4cfef_28 hls hC hl hE 16 _ _ _ _ _ _ h
          · exact xk_r (xt_out hC hE (bk_r h) (Nat.le_of_ble_eq_true rfl) (Nat.le_of_ble_eq_true rfl))
        · exact xk_r (xt_out hC hE (bk_r h) (Nat.le_of_ble_eq_true rfl) (Nat.le_of_ble_eq_true rfl))
      · exact xk_r (xt_out hC hE (bk_r h) (Nat.le_of_ble_eq_true rfl) (Nat.le_of_ble_eq_true rfl))
  · exact xk_r (xt_out hC hE (bk_r h) (Nat.le_of_ble_eq_true rfl) (Nat.le_of_ble_eq_true rfl))
theorem c_J2_indexOfSupplementary_4cfef (l : Launch) (hls : l.stackTraces = false) {S : mS} {a0 : Nat} {a1 : Int32} {a2 : Int32} {a3 : Int32} {o : Rs Int32} (h : f_J2_indexOfSupplementary_4cfef S a0 a1 a2 a3 = some o) : CT (fun r : Int32 => some (.int r)) l yJ2_indexOfSupplementary_4cfef (.code yJ2_indexOfSupplementary_4cfef cJ2_indexOfSupplementary_4cfef 7 (Option.some Jvm.ClassFile.FieldType.int)) rm_J2_indexOfSupplementary_4cfef S [.ref a0, .int a1, .int a2, .int a3] o := ct_of (by decide +kernel) hls (Nat.le_of_ble_eq_true rfl) (fun C hl hC hE => t_J2_indexOfSupplementary_4cfef hls hC hl hE h)
abbrev rm_J2_indexOf_4cfef : Room := { frames := 11, cells := 0, slots := 0, locals := 220 }
def f_J2_indexOf_4cfef (S : mS) (a0 : Nat) (a1 : Int32) (a2 : Int32) (a3 : Int32) : Option (Rs Int32) :=
  lt9 (if a2 < (0 : Int32) then (0 : Int32) else a2) fun x1 => gd (gK S a0 = 33) (lt9 (Int32.ofNat (gZ S a0)) fun x3 => lt9 (x3 >>> ((1 : Int32) &&& 31)) fun x4 => lt9 (if x4 < a3 then x4 else a3) fun x5 => if x1 < x5 then (if (65536 : Int32) ≤ a1 then (bd (f_J2_indexOfSupplementary_4cfef S a0 a1 x1 x5) fun x6 S7 => some (.inl x6, S7)) else (bd (f_J2_indexOfChar_4cfef S a0 a1 x1 x5) fun x10 S11 => some (.inl x10, S11))) else (some (.inl (-1 : Int32), S)))
set_option maxHeartbeats 2000000 in
set_option maxRecDepth 100000 in
theorem t_J2_indexOf_4cfef {l : Launch} (hls : l.stackTraces = false) {C : cT} (hC : CX C cJ2_indexOf_4cfef 4 yJ2_indexOf_4cfef rm_J2_indexOf_4cfef) (hl : C.2.1 = l) {S0 : mS} (hE : CE C S0 (Option.some Jvm.ClassFile.FieldType.int) []) {o : Rs Int32} {S : mS} {a0 : Nat} {a1 : Int32} {a2 : Int32} {a3 : Int32} (h : f_J2_indexOf_4cfef S a0 a1 a2 a3 = some o) : XX C 4 (QQ C (fun r : Int32 => some (.int r)) S0 o) 0 0 S 0 [(0, .ref a0), (1, .int a1), (2, .int a2), (3, .int a3)] [] := by
  unfold f_J2_indexOf_4cfef at h
  refine x_iload_n (pc := 0) hC 2 dJ2_indexOf_4cfef_0 rfl rfl ?_
  refine x_iconst (pc := 1) (v := (0 : Int32)) hC dJ2_indexOf_4cfef_1 (by decide) ?_
  refine x_mmax (pc := 2) hC wm_2061 wm_650 wm_69 wm_651 dJ2_indexOf_4cfef_2 (Nat.le_of_ble_eq_true rfl) (Nat.le_of_ble_eq_true rfl) (Nat.le_of_ble_eq_true rfl) (Nat.le_of_ble_eq_true rfl) (fun x1 hx1 => ?_)
  replace h := lt_x hx1 h
  refine x_istore_n (pc := 5) hC dJ2_indexOf_4cfef_5 rfl (by decide) (by decide) rfl ?_
  refine x_iload_n (pc := 6) hC 3 dJ2_indexOf_4cfef_6 rfl rfl ?_
  refine x_aload_n (pc := 7) hC 1 dJ2_indexOf_4cfef_7 rfl rfl ?_
  obtain ⟨g2, h⟩ := gd_some h
  refine x_alenv (pc := 8) (t0 := 3) hC dJ2_indexOf_4cfef_8 g2 (by decide) (fun _ => rfl) (fun x3 hx3 => ?_)
  replace h := lt_x hx3 h
  refine x_iconst (pc := 9) (v := (1 : Int32)) hC dJ2_indexOf_4cfef_9 (by decide) ?_
  refine x_ishrv (pc := 10) hC dJ2_indexOf_4cfef_10 (fun x4 hx4 => ?_)
  replace h := lt_x hx4 h
  refine x_mmin (pc := 11) hC wm_2062 wm_598 wm_69 wm_599 dJ2_indexOf_4cfef_11 (Nat.le_of_ble_eq_true rfl) (Nat.le_of_ble_eq_true rfl) (Nat.le_of_ble_eq_true rfl) (Nat.le_of_ble_eq_true rfl) (fun x5 hx5 => ?_)
  replace h := lt_x hx5 h
  refine x_istore_n (pc := 14) hC dJ2_indexOf_4cfef_14 rfl (by decide) (by decide) rfl ?_
  refine x_iload_n (pc := 15) hC 1 dJ2_indexOf_4cfef_15 rfl rfl ?_
  refine x_iload_n (pc := 16) hC 0 dJ2_indexOf_4cfef_16 rfl rfl ?_
  refine x_icmp_lt (pc := 17) hC 22 dJ2_indexOf_4cfef_17 (by decide) (fun c15 => ?_) (fun c15 => ?_)
  · rw [if_pos c15] at h
    refine x_iload_n (pc := 22) hC 3 dJ2_indexOf_4cfef_22 rfl rfl ?_
    refine x_ldc (pc := 23) hC wm_2063 dJ2_indexOf_4cfef_23 ?_
    refine x_icmp_ge (pc := 25) hC 36 dJ2_indexOf_4cfef_25 (by decide) (fun c14 => ?_) (fun c14 => ?_)
    · rw [if_pos c14] at h
      refine x_aload_n (pc := 36) hC 2 dJ2_indexOf_4cfef_36 rfl rfl ?_
      refine x_iload_n (pc := 37) hC 3 dJ2_indexOf_4cfef_37 rfl rfl ?_
      refine x_iload_n (pc := 38) hC 1 dJ2_indexOf_4cfef_38 rfl rfl ?_
      refine x_iload_n (pc := 39) hC 0 dJ2_indexOf_4cfef_39 rfl rfl ?_
      obtain ⟨o8, ho8, h⟩ := bd_some h
      refine x_callS (pc := 40) (As := [.ref a0, .int a1, .int x1, .int x5]) (rest := []) hC hl (c_J2_indexOfSupplementary_4cfef l hls ho8) lk_RJ2_232 dJ2_indexOf_4cfef_40 rfl rfl (Nat.le_of_ble_eq_true rfl) ⟨Nat.le_of_ble_eq_true rfl, Nat.le_of_ble_eq_true rfl⟩ ⟨(Nat.le_of_ble_eq_true rfl), (Nat.le_of_ble_eq_true rfl)⟩ ?_
      rcases o8 with ⟨x6 | E9, S7⟩
      · refine xk_i ?_
        replace h := bk_l h
        exact x_ireturn (pc := 43) hC hE dJ2_indexOf_4cfef_43 (so h) (Nat.le_of_ble_eq_true rfl) (Nat.le_of_ble_eq_true rfl)
      · exact xk_r (xt_out hC hE (bk_r h) (Nat.le_of_ble_eq_true rfl) (Nat.le_of_ble_eq_true rfl))
    · rw [if_neg c14] at h
      refine x_aload_n (pc := 28) hC 2 dJ2_indexOf_4cfef_28 rfl rfl ?_
      refine x_iload_n (pc := 29) hC 3 dJ2_indexOf_4cfef_29 rfl rfl ?_
      refine x_iload_n (pc := 30) hC 1 dJ2_indexOf_4cfef_30 rfl rfl ?_
      refine x_iload_n (pc := 31) hC 0 dJ2_indexOf_4cfef_31 rfl rfl ?_
      obtain ⟨o12, ho12, h⟩ := bd_some h
      refine x_callS (pc := 32) (As := [.ref a0, .int a1, .int x1, .int x5]) (rest := []) hC hl (c_J2_indexOfChar_4cfef l hls ho12) lk_RJ2_228 dJ2_indexOf_4cfef_32 rfl rfl (Nat.le_of_ble_eq_true rfl) ⟨Nat.le_of_ble_eq_true rfl, Nat.le_of_ble_eq_true rfl⟩ ⟨(Nat.le_of_ble_eq_true rfl), (Nat.le_of_ble_eq_true rfl)⟩ ?_
      rcases o12 with ⟨x10 | E13, S11⟩
      · refine xk_i ?_
        replace h := bk_l h
        exact x_ireturn (pc := 35) hC hE dJ2_indexOf_4cfef_35 (so h) (Nat.le_of_ble_eq_true rfl) (Nat.le_of_ble_eq_true rfl)
      · exact xk_r (xt_out hC hE (bk_r h) (Nat.le_of_ble_eq_true rfl) (Nat.le_of_ble_eq_true rfl))
  · rw [if_neg c15] at h
    refine x_iconst (pc := 20) (v := (-1 : Int32)) hC dJ2_indexOf_4cfef_20 (by decide) ?_
    exact x_ireturn (pc := 21) hC hE dJ2_indexOf_4cfef_21 (so h) (Nat.le_of_ble_eq_true rfl) (Nat.le_of_ble_eq_true rfl)
theorem c_J2_indexOf_4cfef (l : Launch) (hls : l.stackTraces = false) {S : mS} {a0 : Nat} {a1 : Int32} {a2 : Int32} {a3 : Int32} {o : Rs Int32} (h : f_J2_indexOf_4cfef S a0 a1 a2 a3 = some o) : CT (fun r : Int32 => some (.int r)) l yJ2_indexOf_4cfef (.code yJ2_indexOf_4cfef cJ2_indexOf_4cfef 4 (Option.some Jvm.ClassFile.FieldType.int)) rm_J2_indexOf_4cfef S [.ref a0, .int a1, .int a2, .int a3] o := ct_of (by decide +kernel) hls (Nat.le_of_ble_eq_true rfl) (fun C hl hC hE => t_J2_indexOf_4cfef hls hC hl hE h)
abbrev rm_J0_indexOf_7cf53 : Room := { frames := 9, cells := 0, slots := 0, locals := 170 }
def f_J0_indexOf_7cf53 (S : mS) (a0 : Nat) (a1 : Int32) (a2 : Int32) : Option (Rs Int32) :=
  gd (gK S a0 = 1) (bd (f_J0_isLatin1_aae02 S a0) fun x2 S3 => if x2 = 0 then (none) else (none))
set_option maxHeartbeats 2000000 in
set_option maxRecDepth 100000 in
theorem t_J0_indexOf_7cf53 {l : Launch} (hls : l.stackTraces = false) {C : cT} (hC : CX C cJ0_indexOf_7cf53 3 yJ0_indexOf_7cf53 rm_J0_indexOf_7cf53) (hl : C.2.1 = l) {S0 : mS} (hE : CE C S0 (Option.some Jvm.ClassFile.FieldType.int) []) {o : Rs Int32} {S : mS} {a0 : Nat} {a1 : Int32} {a2 : Int32} (h : f_J0_indexOf_7cf53 S a0 a1 a2 = some o) : XX C 3 (QQ C (fun r : Int32 => some (.int r)) S0 o) 0 0 S 0 [(0, .ref a0), (1, .int a1), (2, .int a2)] [] := by
  unfold f_J0_indexOf_7cf53 at h
  refine x_aload_n (pc := 0) hC 0 dJ0_indexOf_7cf53_0 rfl rfl ?_
  obtain ⟨g1, h⟩ := gd_some h
  obtain ⟨o4, ho4, h⟩ := bd_some h
  refine x_callV (pc := 1) (As := []) (rest := []) hC hl (c_J0_isLatin1_aae02 l hls ho4) lk_RJ0_492 fc_1 g1 dJ0_indexOf_7cf53_1 rfl rfl (Nat.le_of_ble_eq_true rfl) ⟨Nat.le_of_ble_eq_true rfl, Nat.le_of_ble_eq_true rfl⟩ ⟨(Nat.le_of_ble_eq_true rfl), (Nat.le_of_ble_eq_true rfl)⟩ ?_
  rcases o4 with ⟨x2 | E5, S3⟩
  · refine xk_i ?_
    replace h := bk_l h
    refine x_if_eq (pc := 4) hC 23 dJ0_indexOf_7cf53_4 (by decide) (fun c6 => ?_) (fun c6 => ?_)
    · rw [if_pos c6] at h
      refine x_aload_n (pc := 23) hC 0 dJ0_indexOf_7cf53_23 rfl rfl ?_
      cases h
    · rw [if_neg c6] at h
      refine x_aload_n (pc := 7) hC 0 dJ0_indexOf_7cf53_7 rfl rfl ?_
      cases h
  · exact xk_r (xt_out hC hE (bk_r h) (Nat.le_of_ble_eq_true rfl) (Nat.le_of_ble_eq_true rfl))
theorem c_J0_indexOf_7cf53 (l : Launch) (hls : l.stackTraces = false) {S : mS} {a0 : Nat} {a1 : Int32} {a2 : Int32} {o : Rs Int32} (h : f_J0_indexOf_7cf53 S a0 a1 a2 = some o) : CT (fun r : Int32 => some (.int r)) l yJ0_indexOf_7cf53 (.code yJ0_indexOf_7cf53 cJ0_indexOf_7cf53 3 (Option.some Jvm.ClassFile.FieldType.int)) rm_J0_indexOf_7cf53 S [.ref a0, .int a1, .int a2] o := ct_of (by decide +kernel) hls (Nat.le_of_ble_eq_true rfl) (fun C hl hC hE => t_J0_indexOf_7cf53 hls hC hl hE h)
abbrev rm_J0_indexOf_0f7a4 : Room := { frames := 10, cells := 0, slots := 0, locals := 192 }
def f_J0_indexOf_0f7a4 (S : mS) (a0 : Nat) (a1 : Int32) : Option (Rs Int32) :=
  gd (gK S a0 = 1) (bd (f_J0_indexOf_7cf53 S a0 a1 (0 : Int32)) fun x2 S3 => some (.inl x2, S3))
set_option maxHeartbeats 2000000 in
set_option maxRecDepth 100000 in
theorem t_J0_indexOf_0f7a4 {l : Launch} (hls : l.stackTraces = false) {C : cT} (hC : CX C cJ0_indexOf_0f7a4 2 yJ0_indexOf_0f7a4 rm_J0_indexOf_0f7a4) (hl : C.2.1 = l) {S0 : mS} (hE : CE C S0 (Option.some Jvm.ClassFile.FieldType.int) []) {o : Rs Int32} {S : mS} {a0 : Nat} {a1 : Int32} (h : f_J0_indexOf_0f7a4 S a0 a1 = some o) : XX C 2 (QQ C (fun r : Int32 => some (.int r)) S0 o) 0 0 S 0 [(0, .ref a0), (1, .int a1)] [] := by
  unfold f_J0_indexOf_0f7a4 at h
  refine x_aload_n (pc := 0) hC 0 dJ0_indexOf_0f7a4_0 rfl rfl ?_
  refine x_iload_n (pc := 1) hC 1 dJ0_indexOf_0f7a4_1 rfl rfl ?_
  refine x_iconst (pc := 2) (v := (0 : Int32)) hC dJ0_indexOf_0f7a4_2 (by decide) ?_
  obtain ⟨g1, h⟩ := gd_some h
  obtain ⟨o4, ho4, h⟩ := bd_some h
  refine x_callV (pc := 3) (As := [.int a1, .int (0 : Int32)]) (rest := []) hC hl (c_J0_indexOf_7cf53 l hls ho4) lk_RJ0_633 fc_1 g1 dJ0_indexOf_0f7a4_3 rfl rfl (Nat.le_of_ble_eq_true rfl) ⟨Nat.le_of_ble_eq_true rfl, Nat.le_of_ble_eq_true rfl⟩ ⟨(Nat.le_of_ble_eq_true rfl), (Nat.le_of_ble_eq_true rfl)⟩ ?_
  rcases o4 with ⟨x2 | E5, S3⟩
  · refine xk_i ?_
    replace h := bk_l h
    exact x_ireturn (pc := 6) hC hE dJ0_indexOf_0f7a4_6 (so h) (Nat.le_of_ble_eq_true rfl) (Nat.le_of_ble_eq_true rfl)
  · exact xk_r (xt_out hC hE (bk_r h) (Nat.le_of_ble_eq_true rfl) (Nat.le_of_ble_eq_true rfl))
theorem c_J0_indexOf_0f7a4 (l : Launch) (hls : l.stackTraces = false) {S : mS} {a0 : Nat} {a1 : Int32} {o : Rs Int32} (h : f_J0_indexOf_0f7a4 S a0 a1 = some o) : CT (fun r : Int32 => some (.int r)) l yJ0_indexOf_0f7a4 (.code yJ0_indexOf_0f7a4 cJ0_indexOf_0f7a4 2 (Option.some Jvm.ClassFile.FieldType.int)) rm_J0_indexOf_0f7a4 S [.ref a0, .int a1] o := ct_of (by decide +kernel) hls (Nat.le_of_ble_eq_true rfl) (fun C hl hC hE => t_J0_indexOf_0f7a4 hls hC hl hE h)
abbrev rm_Jx4a65c_clear_da8c8 : Room := { frames := 8, cells := 0, slots := 0, locals := 150 }
def f_Jx4a65c_clear_da8c8_27  : Nat → mS → Nat → Int32 → Int32 → Option (Rs Unit)
  | 0, _, _, _, _ => none
  | k + 1, S, a1, a2, a3 => if a2 ≤ a3 then (some (.inl (), S)) else (gd (gK S a1 = 40) (gd (¬ (a3 < 0 ∨ gZ S a1 ≤ (a3).toNatClampNeg)) (zR (sR S a1 (a3).toNatClampNeg 0) fun S3 => lt9 (a3 + Int32.ofInt (1)) fun x5 => f_Jx4a65c_clear_da8c8_27 k S3 a1 a2 x5)))
set_option maxHeartbeats 2000000 in
set_option maxRecDepth 100000 in
theorem t_Jx4a65c_clear_da8c8_27 {l : Launch} (hls : l.stackTraces = false) {C : cT} (hC : CX C cJx4a65c_clear_da8c8 4 yJx4a65c_clear_da8c8 rm_Jx4a65c_clear_da8c8) (hl : C.2.1 = l) {S0 : mS} (hE : CE C S0 (Option.none : Option Jvm.ClassFile.FieldType) []) {o : Rs Unit} : ∀ (k : Nat) (S : mS) (a1 : Nat) (a2 : Int32) (a3 : Int32), f_Jx4a65c_clear_da8c8_27  k S a1 a2 a3 = some o → XX C 4 (QQ C (fun _ : Unit => none) S0 o) (0) (0) S 27 [(1, .ref a1), (2, .int a2), (3, .int a3)] [] := by
  intro k
  induction k with
  | zero => intro S a1 a2 a3 h; cases h
  | succ k ih =>
    intro S a1 a2 a3 h
    unfold f_Jx4a65c_clear_da8c8_27 at h
    refine x_iload_n (pc := 27) hC 2 dJx4a65c_clear_da8c8_27 rfl rfl ?_
    refine x_iload_n (pc := 28) hC 1 dJx4a65c_clear_da8c8_28 rfl rfl ?_
    refine x_icmp_ge (pc := 29) hC 42 dJx4a65c_clear_da8c8_29 (by decide) (fun c6 => ?_) (fun c6 => ?_)
    · rw [if_pos c6] at h
      exact x_vreturn (pc := 42) hC hE dJx4a65c_clear_da8c8_42 (so h) (Nat.le_of_ble_eq_true rfl) (Nat.le_of_ble_eq_true rfl)
    · rw [if_neg c6] at h
      refine x_aload_n (pc := 32) hC 0 dJx4a65c_clear_da8c8_32 rfl rfl ?_
      refine x_iload_n (pc := 33) hC 2 dJx4a65c_clear_da8c8_33 rfl rfl ?_
      refine x_null (pc := 34) hC dJx4a65c_clear_da8c8_34 ?_
      obtain ⟨g2, h⟩ := gd_some h
      obtain ⟨g1, h⟩ := gd_some h
      refine x_rastNv (pc := 35) (t0 := 10) hC dJx4a65c_clear_da8c8_35 g2 (by decide) (fun _ => rfl) g1 (fun S3 hS3 => ?_)
      replace h := zR_x hS3 h
      have g4 : gK S3 a1 = 40 := by rw [hS3]; exact g2
      obtain ⟨x5, hx5⟩ : ∃ z, z = (a3 + Int32.ofInt (1)) := ⟨_, rfl⟩
      replace h := lt_x hx5 h
      refine x_iinc (pc := 36) hC 2 dJx4a65c_clear_da8c8_36 rfl hx5.symm (by decide) (by decide) rfl ?_
      refine x_goto (pc := 39) hC 27 dJx4a65c_clear_da8c8_39 (by decide) ?_
      refine x_pick [1, 2, 0] rfl ?_
      exact ih _ _ _ _ h
def f_Jx4a65c_clear_da8c8 (S : mS) (a0 : Nat) : Option (Rs Unit) :=
  gd (gK S a0 = 5) (lt9 (gI S a0 0) fun x2 => lt9 (x2 + (1 : Int32)) fun x3 => zI (sI S a0 0 x3) fun S4 => lt9 (gR S4 a0 1) fun r6 => lt9 (gI S4 a0 2) fun x7 => zI (sI S4 a0 2 (0 : Int32)) fun S8 => f_Jx4a65c_clear_da8c8_27  16 S8 r6 x7 (0 : Int32))
set_option maxHeartbeats 2000000 in
set_option maxRecDepth 100000 in
theorem t_Jx4a65c_clear_da8c8 {l : Launch} (hls : l.stackTraces = false) {C : cT} (hC : CX C cJx4a65c_clear_da8c8 4 yJx4a65c_clear_da8c8 rm_Jx4a65c_clear_da8c8) (hl : C.2.1 = l) {S0 : mS} (hE : CE C S0 (Option.none : Option Jvm.ClassFile.FieldType) []) {o : Rs Unit} {S : mS} {a0 : Nat} (h : f_Jx4a65c_clear_da8c8 S a0 = some o) : XX C 4 (QQ C (fun _ : Unit => none) S0 o) 0 0 S 0 [(0, .ref a0)] [] := by
  unfold f_Jx4a65c_clear_da8c8 at h
  refine x_aload_n (pc := 0) hC 0 dJx4a65c_clear_da8c8_0 rfl rfl ?_
  refine x_dup (pc := 1) hC dJx4a65c_clear_da8c8_1 rfl ?_
  obtain ⟨g1, h⟩ := gd_some h
  refine x_getIv (pc := 2) (k := 0) hC fc_5 fl_RJx4a65c_63 dJx4a65c_clear_da8c8_2 rfl g1 (fun x2 hx2 => ?_)
  replace h := lt_x hx2 h
  refine x_iconst (pc := 5) (v := (1 : Int32)) hC dJx4a65c_clear_da8c8_5 (by decide) ?_
  refine x_iaddv (pc := 6) hC dJx4a65c_clear_da8c8_6 (fun x3 hx3 => ?_)
  replace h := lt_x hx3 h
  refine x_putIv (pc := 7) (k := 0) hC fc_5 fl_RJx4a65c_63 dJx4a65c_clear_da8c8_7 rfl rfl (nf_int _) g1 (fun S4 hS4 => ?_)
  replace h := zI_x hS4 h
  have g5 : gK S4 a0 = 5 := by rw [hS4]; exact g1
  refine x_aload_n (pc := 10) hC 0 dJx4a65c_clear_da8c8_10 rfl rfl ?_
  refine x_getRv (pc := 11) (k := 1) hC fc_5 fl_RJx4a65c_9 dJx4a65c_clear_da8c8_11 rfl g5 (fun r6 hr6 => ?_)
  replace h := lt_x hr6 h
  refine x_astore_n (pc := 14) hC dJx4a65c_clear_da8c8_14 rfl (by decide) (by decide) rfl ?_
  refine x_aload_n (pc := 15) hC 1 dJx4a65c_clear_da8c8_15 rfl rfl ?_
  refine x_getIv (pc := 16) (k := 2) hC fc_5 fl_RJx4a65c_48 dJx4a65c_clear_da8c8_16 rfl g5 (fun x7 hx7 => ?_)
  replace h := lt_x hx7 h
  refine x_istore_n (pc := 19) hC dJx4a65c_clear_da8c8_19 rfl (by decide) (by decide) rfl ?_
  refine x_aload_n (pc := 20) hC 2 dJx4a65c_clear_da8c8_20 rfl rfl ?_
  refine x_iconst (pc := 21) (v := (0 : Int32)) hC dJx4a65c_clear_da8c8_21 (by decide) ?_
  refine x_dup_x1 (pc := 22) hC dJx4a65c_clear_da8c8_22 rfl rfl ?_
  refine x_putIv (pc := 23) (k := 2) hC fc_5 fl_RJx4a65c_48 dJx4a65c_clear_da8c8_23 rfl rfl (nf_int _) g5 (fun S8 hS8 => ?_)
  replace h := zI_x hS8 h
  have g9 : gK S8 a0 = 5 := by rw [hS8]; exact g5
  refine x_istore_n (pc := 26) hC dJx4a65c_clear_da8c8_26 rfl (by decide) (by decide) rfl ?_
  refine x_pick [2, 1, 0] rfl ?_
  exact t_Jx4a65c_clear_da8c8_27 hls hC hl hE 16 _ _ _ _ h
theorem c_Jx4a65c_clear_da8c8 (l : Launch) (hls : l.stackTraces = false) {S : mS} {a0 : Nat} {o : Rs Unit} (h : f_Jx4a65c_clear_da8c8 S a0 = some o) : CT (fun _ : Unit => none) l yJx4a65c_clear_da8c8 (.code yJx4a65c_clear_da8c8 cJx4a65c_clear_da8c8 4 (Option.none : Option Jvm.ClassFile.FieldType)) rm_Jx4a65c_clear_da8c8 S [.ref a0] o := ct_of (by decide +kernel) hls (Nat.le_of_ble_eq_true rfl) (fun C hl hC hE => t_Jx4a65c_clear_da8c8 hls hC hl hE h)
abbrev rm_Jx35411_hasNext_aae02 : Room := { frames := 8, cells := 0, slots := 0, locals := 150 }
def f_Jx35411_hasNext_aae02_19  (S : mS) (s0 : Int32) : Option (Rs Int32) :=
  gd (s0 = 0 ∨ s0 = 1) (some (.inl s0, S))
set_option maxHeartbeats 2000000 in
set_option maxRecDepth 100000 in
theorem t_Jx35411_hasNext_aae02_19 {l : Launch} (hls : l.stackTraces = false) {C : cT} (hC : CX C cJx35411_hasNext_aae02 1 yJx35411_hasNext_aae02 rm_Jx35411_hasNext_aae02) (hl : C.2.1 = l) {S0 : mS} (hE : CE C S0 (Option.some Jvm.ClassFile.FieldType.boolean) []) {o : Rs Int32} {S : mS} {s0 : Int32} (h : f_Jx35411_hasNext_aae02_19  S s0 = some o) : XX C 1 (QQ C (fun r : Int32 => some (.int r)) S0 o) (0) (0) S 19 [] [.int s0] := by
  unfold f_Jx35411_hasNext_aae02_19 at h
  obtain ⟨g1, h⟩ := gd_some h
  exact x_zreturn (pc := 19) hC hE dJx35411_hasNext_aae02_19 (nf_B g1).1 (so h) (Nat.le_of_ble_eq_true rfl) (Nat.le_of_ble_eq_true rfl)
def f_Jx35411_hasNext_aae02 (S : mS) (a0 : Nat) : Option (Rs Int32) :=
  gd (gK S a0 = 4) (lt9 (gI S a0 0) fun x2 => lt9 (gR S a0 3) fun r3 => gd (gK S r3 = 5) (lt9 (gI S r3 2) fun x5 => if x2 = x5 then (f_Jx35411_hasNext_aae02_19  S (0 : Int32)) else (f_Jx35411_hasNext_aae02_19  S (1 : Int32))))
set_option maxHeartbeats 2000000 in
set_option maxRecDepth 100000 in
theorem t_Jx35411_hasNext_aae02 {l : Launch} (hls : l.stackTraces = false) {C : cT} (hC : CX C cJx35411_hasNext_aae02 1 yJx35411_hasNext_aae02 rm_Jx35411_hasNext_aae02) (hl : C.2.1 = l) {S0 : mS} (hE : CE C S0 (Option.some Jvm.ClassFile.FieldType.boolean) []) {o : Rs Int32} {S : mS} {a0 : Nat} (h : f_Jx35411_hasNext_aae02 S a0 = some o) : XX C 1 (QQ C (fun r : Int32 => some (.int r)) S0 o) 0 0 S 0 [(0, .ref a0)] [] := by
  unfold f_Jx35411_hasNext_aae02 at h
  refine x_aload_n (pc := 0) hC 0 dJx35411_hasNext_aae02_0 rfl rfl ?_
  obtain ⟨g1, h⟩ := gd_some h
  refine x_getIv (pc := 1) (k := 0) hC fc_4 fl_RJx35411_25 dJx35411_hasNext_aae02_1 rfl g1 (fun x2 hx2 => ?_)
  replace h := lt_x hx2 h
  refine x_aload_n (pc := 4) hC 0 dJx35411_hasNext_aae02_4 rfl rfl ?_
  refine x_getRv (pc := 5) (k := 3) hC fc_4 fl_RJx35411_1 dJx35411_hasNext_aae02_5 rfl g1 (fun r3 hr3 => ?_)
  replace h := lt_x hr3 h
  obtain ⟨g4, h⟩ := gd_some h
  refine x_getIv (pc := 8) (k := 2) hC fc_5 fl_RJx35411_28 dJx35411_hasNext_aae02_8 rfl g4 (fun x5 hx5 => ?_)
  replace h := lt_x hx5 h
  refine x_icmp_eq (pc := 11) hC 18 dJx35411_hasNext_aae02_11 (by decide) (fun c6 => ?_) (fun c6 => ?_)
  · rw [if_pos c6] at h
    refine x_iconst (pc := 18) (v := (0 : Int32)) hC dJx35411_hasNext_aae02_18 (by decide) ?_
    refine x_pick [] rfl ?_
    exact t_Jx35411_hasNext_aae02_19 hls hC hl hE h
  · rw [if_neg c6] at h
    refine x_iconst (pc := 14) (v := (1 : Int32)) hC dJx35411_hasNext_aae02_14 (by decide) ?_
    refine x_goto (pc := 15) hC 19 dJx35411_hasNext_aae02_15 (by decide) ?_
    refine x_pick [] rfl ?_
    exact t_Jx35411_hasNext_aae02_19 hls hC hl hE h
theorem c_Jx35411_hasNext_aae02 (l : Launch) (hls : l.stackTraces = false) {S : mS} {a0 : Nat} {o : Rs Int32} (h : f_Jx35411_hasNext_aae02 S a0 = some o) : CT (fun r : Int32 => some (.int r)) l yJx35411_hasNext_aae02 (.code yJx35411_hasNext_aae02 cJx35411_hasNext_aae02 1 (Option.some Jvm.ClassFile.FieldType.boolean)) rm_Jx35411_hasNext_aae02 S [.ref a0] o := ct_of (by decide +kernel) hls (Nat.le_of_ble_eq_true rfl) (fun C hl hC hE => t_Jx35411_hasNext_aae02 hls hC hl hE h)
abbrev rm_Jx35411_checkForComodification_da8c8 : Room := { frames := 8, cells := 0, slots := 0, locals := 150 }
def f_Jx35411_checkForComodification_da8c8 (S : mS) (a0 : Nat) : Option (Rs Unit) :=
  gd (gK S a0 = 4) (lt9 (gR S a0 3) fun r2 => gd (gK S r2 = 5) (lt9 (gI S r2 0) fun x4 => lt9 (gI S a0 2) fun x5 => if x4 = x5 then (some (.inl (), S)) else (none)))
set_option maxHeartbeats 2000000 in
set_option maxRecDepth 100000 in
theorem t_Jx35411_checkForComodification_da8c8 {l : Launch} (hls : l.stackTraces = false) {C : cT} (hC : CX C cJx35411_checkForComodification_da8c8 1 yJx35411_checkForComodification_da8c8 rm_Jx35411_checkForComodification_da8c8) (hl : C.2.1 = l) {S0 : mS} (hE : CE C S0 (Option.none : Option Jvm.ClassFile.FieldType) []) {o : Rs Unit} {S : mS} {a0 : Nat} (h : f_Jx35411_checkForComodification_da8c8 S a0 = some o) : XX C 1 (QQ C (fun _ : Unit => none) S0 o) 0 0 S 0 [(0, .ref a0)] [] := by
  unfold f_Jx35411_checkForComodification_da8c8 at h
  refine x_aload_n (pc := 0) hC 0 dJx35411_checkForComodification_da8c8_0 rfl rfl ?_
  obtain ⟨g1, h⟩ := gd_some h
  refine x_getRv (pc := 1) (k := 3) hC fc_4 fl_RJx35411_1 dJx35411_checkForComodification_da8c8_1 rfl g1 (fun r2 hr2 => ?_)
  replace h := lt_x hr2 h
  obtain ⟨g3, h⟩ := gd_some h
  refine x_getIv (pc := 4) (k := 0) hC fc_5 fl_RJx35411_17 dJx35411_checkForComodification_da8c8_4 rfl g3 (fun x4 hx4 => ?_)
  replace h := lt_x hx4 h
  refine x_aload_n (pc := 7) hC 0 dJx35411_checkForComodification_da8c8_7 rfl rfl ?_
  refine x_getIv (pc := 8) (k := 2) hC fc_4 fl_RJx35411_22 dJx35411_checkForComodification_da8c8_8 rfl g1 (fun x5 hx5 => ?_)
  replace h := lt_x hx5 h
  refine x_icmp_eq (pc := 11) hC 22 dJx35411_checkForComodification_da8c8_11 (by decide) (fun c6 => ?_) (fun c6 => ?_)
  · rw [if_pos c6] at h
    exact x_vreturn (pc := 22) hC hE dJx35411_checkForComodification_da8c8_22 (so h) (Nat.le_of_ble_eq_true rfl) (Nat.le_of_ble_eq_true rfl)
  · rw [if_neg c6] at h
    cases h
theorem c_Jx35411_checkForComodification_da8c8 (l : Launch) (hls : l.stackTraces = false) {S : mS} {a0 : Nat} {o : Rs Unit} (h : f_Jx35411_checkForComodification_da8c8 S a0 = some o) : CT (fun _ : Unit => none) l yJx35411_checkForComodification_da8c8 (.code yJx35411_checkForComodification_da8c8 cJx35411_checkForComodification_da8c8 1 (Option.none : Option Jvm.ClassFile.FieldType)) rm_Jx35411_checkForComodification_da8c8 S [.ref a0] o := ct_of (by decide +kernel) hls (Nat.le_of_ble_eq_true rfl) (fun C hl hC hE => t_Jx35411_checkForComodification_da8c8 hls hC hl hE h)
abbrev rm_Jx35411_next_0502b : Room := { frames := 9, cells := 0, slots := 0, locals := 170 }
def f_Jx35411_next_0502b (S : mS) (a0 : Nat) : Option (Rs Nat) :=
  gd (gK S a0 = 4) (bd (f_Jx35411_checkForComodification_da8c8 S a0) fun _ S3 => gd (gK S3 a0 = 4) (lt9 (gI S3 a0 0) fun x7 => lt9 (gR S3 a0 3) fun r8 => gd (gK S3 r8 = 5) (lt9 (gI S3 r8 2) fun x10 => if x7 < x10 then (lt9 (gR S3 a0 3) fun r11 => gd (gK S3 r11 = 5) (lt9 (gR S3 r11 1) fun r13 => if r13 = KB + 20 then (if x7 < (0 : Int32) then (lt9 (x7 + (1 : Int32)) fun x14 => zI (sI S3 a0 0 x14) fun S15 => zI (sI S15 a0 1 x7) fun S19 => gd (gK S19 r13 = 40) (gd (¬ (x7 < 0 ∨ gZ S19 r13 ≤ (x7).toNatClampNeg)) (lt9 (gR S19 r13 (x7).toNatClampNeg) fun r26 => some (.inl r26, S19)))) else (none)) else (gd (gK S3 r13 = 40) (lt9 (Int32.ofNat (gZ S3 r13)) fun x29 => if x7 < x29 then (lt9 (x7 + (1 : Int32)) fun x30 => zI (sI S3 a0 0 x30) fun S31 => zI (sI S31 a0 1 x7) fun S36 => gd (¬ (x7 < 0 ∨ gZ S36 r13 ≤ (x7).toNatClampNeg)) (lt9 (gR S36 r13 (x7).toNatClampNeg) fun r43 => some (.inl r43, S36))) else (none))))) else (none))))
set_option maxHeartbeats 2000000 in
set_option maxRecDepth 100000 in
theorem t_Jx35411_next_0502b {l : Launch} (hls : l.stackTraces = false) {C : cT} (hC : CX C cJx35411_next_0502b 3 yJx35411_next_0502b rm_Jx35411_next_0502b) (hl : C.2.1 = l) {S0 : mS} (hE : CE C S0 (Option.some (Jvm.ClassFile.FieldType.object "java/lang/Object")) []) {o : Rs Nat} {S : mS} {a0 : Nat} (h : f_Jx35411_next_0502b S a0 = some o) : XX C 3 (QQ C (fun r : Nat => some (.ref r)) S0 o) 0 0 S 0 [(0, .ref a0)] [] := by
  unfold f_Jx35411_next_0502b at h
  refine x_aload_n (pc := 0) hC 0 dJx35411_next_0502b_0 rfl rfl ?_
  obtain ⟨g1, h⟩ := gd_some h
  obtain ⟨o4, ho4, h⟩ := bd_some h
  refine x_callV (pc := 1) (As := []) (rest := []) hC hl (c_Jx35411_checkForComodification_da8c8 l hls ho4) lk_RJx35411_31 fc_4 g1 dJx35411_next_0502b_1 rfl rfl (Nat.le_of_ble_eq_true rfl) ⟨Nat.le_of_ble_eq_true rfl, Nat.le_of_ble_eq_true rfl⟩ ⟨(Nat.le_of_ble_eq_true rfl), (Nat.le_of_ble_eq_true rfl)⟩ ?_
  rcases o4 with ⟨_ | E5, S3⟩
  · refine xk_v ?_
    replace h := bk_l h
    refine x_aload_n (pc := 4) hC 0 dJx35411_next_0502b_4 rfl rfl ?_
    obtain ⟨g6, h⟩ := gd_some h
    refine x_getIv (pc := 5) (k := 0) hC fc_4 fl_RJx35411_25 dJx35411_next_0502b_5 rfl g6 (fun x7 hx7 => ?_)
    replace h := lt_x hx7 h
    refine x_istore_n (pc := 8) hC dJx35411_next_0502b_8 rfl (by decide) (by decide) rfl ?_
    refine x_iload_n (pc := 9) hC 0 dJx35411_next_0502b_9 rfl rfl ?_
    refine x_aload_n (pc := 10) hC 1 dJx35411_next_0502b_10 rfl rfl ?_
    refine x_getRv (pc := 11) (k := 3) hC fc_4 fl_RJx35411_1 dJx35411_next_0502b_11 rfl g6 (fun r8 hr8 => ?_)
    replace h := lt_x hr8 h
    obtain ⟨g9, h⟩ := gd_some h
    refine x_getIv (pc := 14) (k := 2) hC fc_5 fl_RJx35411_28 dJx35411_next_0502b_14 rfl g9 (fun x10 hx10 => ?_)
    replace h := lt_x hx10 h
    refine x_icmp_lt (pc := 17) hC 28 dJx35411_next_0502b_17 (by decide) (fun c46 => ?_) (fun c46 => ?_)
    · rw [if_pos c46] at h
      refine x_aload_n (pc := 28) hC 1 dJx35411_next_0502b_28 rfl rfl ?_
      refine x_getRv (pc := 29) (k := 3) hC fc_4 fl_RJx35411_1 dJx35411_next_0502b_29 rfl g6 (fun r11 hr11 => ?_)
      replace h := lt_x hr11 h
      obtain ⟨g12, h⟩ := gd_some h
      refine x_getRv (pc := 32) (k := 1) hC fc_5 fl_RJx35411_37 dJx35411_next_0502b_32 rfl g12 (fun r13 hr13 => ?_)
      replace h := lt_x hr13 h
      refine x_astore_n (pc := 35) hC dJx35411_next_0502b_35 rfl (by decide) (by decide) rfl ?_
      refine x_iload_n (pc := 36) hC 1 dJx35411_next_0502b_36 rfl rfl ?_
      refine x_aload_n (pc := 37) hC 0 dJx35411_next_0502b_37 rfl rfl ?_
      by_cases c45 : r13 = KB + 20
      · rw [if_pos c45] at h
        refine x_alenKe (pc := 38) hC c45 dJx35411_next_0502b_38 ?_
        refine x_icmp_lt (pc := 39) hC 50 dJx35411_next_0502b_39 (by decide) (fun c27 => ?_) (fun c27 => ?_)
        · rw [if_pos c27] at h
          refine x_aload_n (pc := 50) hC 2 dJx35411_next_0502b_50 rfl rfl ?_
          refine x_iload_n (pc := 51) hC 1 dJx35411_next_0502b_51 rfl rfl ?_
          refine x_iconst (pc := 52) (v := (1 : Int32)) hC dJx35411_next_0502b_52 (by decide) ?_
          refine x_iaddv (pc := 53) hC dJx35411_next_0502b_53 (fun x14 hx14 => ?_)
          replace h := lt_x hx14 h
          refine x_putIv (pc := 54) (k := 0) hC fc_4 fl_RJx35411_25 dJx35411_next_0502b_54 rfl rfl (nf_int _) g6 (fun S15 hS15 => ?_)
          replace h := zI_x hS15 h
          have g16 : gK S15 a0 = 4 := by rw [hS15]; exact g6
          have g17 : gK S15 r8 = 5 := by rw [hS15]; exact g9
          have g18 : gK S15 r11 = 5 := by rw [hS15]; exact g12
          refine x_aload_n (pc := 57) hC 0 dJx35411_next_0502b_57 rfl rfl ?_
          refine x_aload_n (pc := 58) hC 2 dJx35411_next_0502b_58 rfl rfl ?_
          refine x_iload_n (pc := 59) hC 1 dJx35411_next_0502b_59 rfl rfl ?_
          refine x_dup_x1 (pc := 60) hC dJx35411_next_0502b_60 rfl rfl ?_
          refine x_putIv (pc := 61) (k := 1) hC fc_4 fl_RJx35411_13 dJx35411_next_0502b_61 rfl rfl (nf_int _) g16 (fun S19 hS19 => ?_)
          replace h := zI_x hS19 h
          have g20 : gK S19 a0 = 4 := by rw [hS19]; exact g16
          have g21 : gK S19 r8 = 5 := by rw [hS19]; exact g17
          have g22 : gK S19 r11 = 5 := by rw [hS19]; exact g18
          obtain ⟨g25, h⟩ := gd_some h
          obtain ⟨g24, h⟩ := gd_some h
          refine x_raldv (pc := 64) (t0 := 10) hC dJx35411_next_0502b_64 g25 (by decide) (fun _ => rfl) g24 (fun r26 hr26 => ?_)
          replace h := lt_x hr26 h
          exact x_areturn (pc := 65) hC hE (Or.inl ⟨_, rfl⟩) dJx35411_next_0502b_65 (so h) (Nat.le_of_ble_eq_true rfl) (Nat.le_of_ble_eq_true rfl)
        · rw [if_neg c27] at h
          cases h
      · rw [if_neg c45] at h
        obtain ⟨g28, h⟩ := gd_some h
        refine x_alenv (pc := 38) (t0 := 10) hC dJx35411_next_0502b_38 g28 (by decide) (fun _ => rfl) (fun x29 hx29 => ?_)
        replace h := lt_x hx29 h
        refine x_icmp_lt (pc := 39) hC 50 dJx35411_next_0502b_39 (by decide) (fun c44 => ?_) (fun c44 => ?_)
        · rw [if_pos c44] at h
          refine x_aload_n (pc := 50) hC 2 dJx35411_next_0502b_50 rfl rfl ?_
          refine x_iload_n (pc := 51) hC 1 dJx35411_next_0502b_51 rfl rfl ?_
          refine x_iconst (pc := 52) (v := (1 : Int32)) hC dJx35411_next_0502b_52 (by decide) ?_
          refine x_iaddv (pc := 53) hC dJx35411_next_0502b_53 (fun x30 hx30 => ?_)
          replace h := lt_x hx30 h
          refine x_putIv (pc := 54) (k := 0) hC fc_4 fl_RJx35411_25 dJx35411_next_0502b_54 rfl rfl (nf_int _) g6 (fun S31 hS31 => ?_)
          replace h := zI_x hS31 h
          have g32 : gK S31 a0 = 4 := by rw [hS31]; exact g6
          have g33 : gK S31 r8 = 5 := by rw [hS31]; exact g9
          have g34 : gK S31 r11 = 5 := by rw [hS31]; exact g12
          have g35 : gK S31 r13 = 40 := by rw [hS31]; exact g28
          refine x_aload_n (pc := 57) hC 0 dJx35411_next_0502b_57 rfl rfl ?_
          refine x_aload_n (pc := 58) hC 2 dJx35411_next_0502b_58 rfl rfl ?_
          refine x_iload_n (pc := 59) hC 1 dJx35411_next_0502b_59 rfl rfl ?_
          refine x_dup_x1 (pc := 60) hC dJx35411_next_0502b_60 rfl rfl ?_
          refine x_putIv (pc := 61) (k := 1) hC fc_4 fl_RJx35411_13 dJx35411_next_0502b_61 rfl rfl (nf_int _) g32 (fun S36 hS36 => ?_)
          replace h := zI_x hS36 h
          have g37 : gK S36 a0 = 4 := by rw [hS36]; exact g32
          have g38 : gK S36 r8 = 5 := by rw [hS36]; exact g33
          have g39 : gK S36 r11 = 5 := by rw [hS36]; exact g34
          have g40 : gK S36 r13 = 40 := by rw [hS36]; exact g35
          obtain ⟨g42, h⟩ := gd_some h
          refine x_raldv (pc := 64) (t0 := 10) hC dJx35411_next_0502b_64 g40 (by decide) (fun _ => rfl) g42 (fun r43 hr43 => ?_)
          replace h := lt_x hr43 h
          exact x_areturn (pc := 65) hC hE (Or.inl ⟨_, rfl⟩) dJx35411_next_0502b_65 (so h) (Nat.le_of_ble_eq_true rfl) (Nat.le_of_ble_eq_true rfl)
        · rw [if_neg c44] at h
          cases h
    · rw [if_neg c46] at h
      cases h
  · exact xk_r (xt_out hC hE (bk_r h) (Nat.le_of_ble_eq_true rfl) (Nat.le_of_ble_eq_true rfl))
theorem c_Jx35411_next_0502b (l : Launch) (hls : l.stackTraces = false) {S : mS} {a0 : Nat} {o : Rs Nat} (h : f_Jx35411_next_0502b S a0 = some o) : CT (fun r : Nat => some (.ref r)) l yJx35411_next_0502b (.code yJx35411_next_0502b cJx35411_next_0502b 3 (Option.some (Jvm.ClassFile.FieldType.object "java/lang/Object"))) rm_Jx35411_next_0502b S [.ref a0] o := ct_of (by decide +kernel) hls (Nat.le_of_ble_eq_true rfl) (fun C hl hC hE => t_Jx35411_next_0502b hls hC hl hE h)
abbrev rm_Jx35411_init_45d68 : Room := { frames := 8, cells := 0, slots := 0, locals := 150 }
def f_Jx35411_init_45d68 (S : mS) (a0 : Nat) (a1 : Nat) : Option (Rs Unit) :=
  gd (gK S a0 = 4) (zR (sR S a0 3 a1) fun S2 => zI (sI S2 a0 1 (-1 : Int32)) fun S4 => lt9 (gR S4 a0 3) fun r6 => gd (gK S4 r6 = 5) (lt9 (gI S4 r6 0) fun x8 => zI (sI S4 a0 2 x8) fun S9 => some (.inl (), S9)))
set_option maxHeartbeats 2000000 in
set_option maxRecDepth 100000 in
theorem t_Jx35411_init_45d68 {l : Launch} (hls : l.stackTraces = false) {C : cT} (hC : CX C cJx35411_init_45d68 2 yJx35411_init_45d68 rm_Jx35411_init_45d68) (hl : C.2.1 = l) {S0 : mS} (hE : CE C S0 (Option.none : Option Jvm.ClassFile.FieldType) []) {o : Rs Unit} {S : mS} {a0 : Nat} {a1 : Nat} (h : f_Jx35411_init_45d68 S a0 a1 = some o) : XX C 2 (QQ C (fun _ : Unit => none) S0 o) 0 0 S 0 [(0, .ref a0), (1, .ref a1)] [] := by
  unfold f_Jx35411_init_45d68 at h
  refine x_aload_n (pc := 0) hC 0 dJx35411_init_45d68_0 rfl rfl ?_
  refine x_aload_n (pc := 1) hC 1 dJx35411_init_45d68_1 rfl rfl ?_
  obtain ⟨g1, h⟩ := gd_some h
  refine x_putRFv (pc := 2) (k := 3) hC fc_4 wm_2187 rfl dJx35411_init_45d68_2 rfl rfl rfl rfl (Or.inl ⟨_, rfl⟩) g1 (fun S2 hS2 => ?_)
  replace h := zR_x hS2 h
  have g3 : gK S2 a0 = 4 := by rw [hS2]; exact g1
  refine x_aload_n (pc := 5) hC 0 dJx35411_init_45d68_5 rfl rfl ?_
  refine x_objInit (pc := 6) hC wm_2183 wm_94 wm_95 dJx35411_init_45d68_6 (by rw [g3]; decide) (Nat.le_of_ble_eq_true rfl) (Nat.le_of_ble_eq_true rfl) ?_
  refine x_aload_n (pc := 9) hC 0 dJx35411_init_45d68_9 rfl rfl ?_
  refine x_iconst (pc := 10) (v := (-1 : Int32)) hC dJx35411_init_45d68_10 (by decide) ?_
  refine x_putIv (pc := 11) (k := 1) hC fc_4 fl_RJx35411_13 dJx35411_init_45d68_11 rfl rfl (nf_int _) g3 (fun S4 hS4 => ?_)
  replace h := zI_x hS4 h
  have g5 : gK S4 a0 = 4 := by rw [hS4]; exact g3
  refine x_aload_n (pc := 14) hC 0 dJx35411_init_45d68_14 rfl rfl ?_
  refine x_aload_n (pc := 15) hC 0 dJx35411_init_45d68_15 rfl rfl ?_
  refine x_getRv (pc := 16) (k := 3) hC fc_4 fl_RJx35411_1 dJx35411_init_45d68_16 rfl g5 (fun r6 hr6 => ?_)
  replace h := lt_x hr6 h
  obtain ⟨g7, h⟩ := gd_some h
  refine x_getIv (pc := 19) (k := 0) hC fc_5 fl_RJx35411_17 dJx35411_init_45d68_19 rfl g7 (fun x8 hx8 => ?_)
  replace h := lt_x hx8 h
  refine x_putIv (pc := 22) (k := 2) hC fc_4 fl_RJx35411_22 dJx35411_init_45d68_22 rfl rfl (nf_int _) g5 (fun S9 hS9 => ?_)
  replace h := zI_x hS9 h
  have g10 : gK S9 a0 = 4 := by rw [hS9]; exact g5
  have g11 : gK S9 r6 = 5 := by rw [hS9]; exact g7
  exact x_vreturn (pc := 25) hC hE dJx35411_init_45d68_25 (so h) (Nat.le_of_ble_eq_true rfl) (Nat.le_of_ble_eq_true rfl)
theorem c_Jx35411_init_45d68 (l : Launch) (hls : l.stackTraces = false) {S : mS} {a0 : Nat} {a1 : Nat} {o : Rs Unit} (h : f_Jx35411_init_45d68 S a0 a1 = some o) : CT (fun _ : Unit => none) l yJx35411_init_45d68 (.code yJx35411_init_45d68 cJx35411_init_45d68 2 (Option.none : Option Jvm.ClassFile.FieldType)) rm_Jx35411_init_45d68 S [.ref a0, .ref a1] o := ct_of (by decide +kernel) hls (Nat.le_of_ble_eq_true rfl) (fun C hl hC hE => t_Jx35411_init_45d68 hls hC hl hE h)
abbrev rm_Jx4a65c_iterator_32c93 : Room := { frames := 9, cells := 1, slots := 4, locals := 171 }
def f_Jx4a65c_iterator_32c93 (S : mS) (a0 : Nat) : Option (Rs Nat) :=
  gd (gN S + 1 < KB) (zW (sW S 4 0) fun S2 => lt9 (gN S + 1) fun r3 => bd (f_Jx35411_init_45d68 S2 r3 a0) fun _ S6 => some (.inl r3, S6))
set_option maxHeartbeats 2000000 in
set_option maxRecDepth 100000 in
theorem t_Jx4a65c_iterator_32c93 {l : Launch} (hls : l.stackTraces = false) {C : cT} (hC : CX C cJx4a65c_iterator_32c93 1 yJx4a65c_iterator_32c93 rm_Jx4a65c_iterator_32c93) (hl : C.2.1 = l) {S0 : mS} (hE : CE C S0 (Option.some (Jvm.ClassFile.FieldType.object "java/util/Iterator")) []) {o : Rs Nat} {S : mS} {a0 : Nat} (h : f_Jx4a65c_iterator_32c93 S a0 = some o) : XX C 1 (QQ C (fun r : Nat => some (.ref r)) S0 o) 0 0 S 0 [(0, .ref a0)] [] := by
  unfold f_Jx4a65c_iterator_32c93 at h
  obtain ⟨g1, h⟩ := gd_some h
  refine x_newv (pc := 0) hC fc_4 fn_4 wm_2178 wm_2179 wm_84 dJx4a65c_iterator_32c93_0 g1 (Nat.le_of_ble_eq_true rfl) (Nat.le_of_ble_eq_true rfl) (fun S2 r3 hS2 hr3 => ?_)
  replace h := zW_x hS2 h
  replace h := lt_x hr3 h
  have g4 : gK S2 r3 = 4 := by rw [hr3, hS2]; exact sW_K
  refine x_dup (pc := 3) hC dJx4a65c_iterator_32c93_3 rfl ?_
  refine x_aload_n (pc := 4) hC 0 dJx4a65c_iterator_32c93_4 rfl rfl ?_
  obtain ⟨o7, ho7, h⟩ := bd_some h
  refine x_callI (pc := 5) (As := [.ref a0]) (rest := [.ref r3]) hC hl (c_Jx35411_init_45d68 l hls ho7) lk_RJx4a65c_269 (by rw [g4]; decide) dJx4a65c_iterator_32c93_5 rfl rfl (Nat.le_of_ble_eq_true rfl) ⟨Nat.le_of_ble_eq_true rfl, Nat.le_of_ble_eq_true rfl⟩ ⟨(Nat.le_of_ble_eq_true rfl), (Nat.le_of_ble_eq_true rfl)⟩ ?_
  rcases o7 with ⟨_ | E8, S6⟩
  · refine xk_v ?_
    replace h := bk_l h
    exact x_areturn (pc := 8) hC hE (Or.inl ⟨_, rfl⟩) dJx4a65c_iterator_32c93_8 (so h) (Nat.le_of_ble_eq_true rfl) (Nat.le_of_ble_eq_true rfl)
  · exact xk_r (xt_out hC hE (bk_r h) (Nat.le_of_ble_eq_true rfl) (Nat.le_of_ble_eq_true rfl))
theorem c_Jx4a65c_iterator_32c93 (l : Launch) (hls : l.stackTraces = false) {S : mS} {a0 : Nat} {o : Rs Nat} (h : f_Jx4a65c_iterator_32c93 S a0 = some o) : CT (fun r : Nat => some (.ref r)) l yJx4a65c_iterator_32c93 (.code yJx4a65c_iterator_32c93 cJx4a65c_iterator_32c93 1 (Option.some (Jvm.ClassFile.FieldType.object "java/util/Iterator"))) rm_Jx4a65c_iterator_32c93 S [.ref a0] o := ct_of (by decide +kernel) hls (Nat.le_of_ble_eq_true rfl) (fun C hl hC hE => t_Jx4a65c_iterator_32c93 hls hC hl hE h)
abbrev rm_J4_append_15ec4 : Room := { frames := 8, cells := 0, slots := 0, locals := 150 }
def f_J4_append_15ec4 (S : mS) (a0 : Nat) (a1 : Nat) : Option (Rs Nat) :=
  none
set_option maxHeartbeats 2000000 in
set_option maxRecDepth 100000 in
theorem t_J4_append_15ec4 {l : Launch} (hls : l.stackTraces = false) {C : cT} (hC : CX C cJ4_append_15ec4 2 yJ4_append_15ec4 rm_J4_append_15ec4) (hl : C.2.1 = l) {S0 : mS} (hE : CE C S0 (Option.some (Jvm.ClassFile.FieldType.object "java/lang/StringBuilder")) []) {o : Rs Nat} {S : mS} {a0 : Nat} {a1 : Nat} (h : f_J4_append_15ec4 S a0 a1 = some o) : XX C 2 (QQ C (fun r : Nat => some (.ref r)) S0 o) 0 0 S 0 [(0, .ref a0), (1, .ref a1)] [] := by
  unfold f_J4_append_15ec4 at h
  refine x_aload_n (pc := 0) hC 0 dJ4_append_15ec4_0 rfl rfl ?_
  refine x_aload_n (pc := 1) hC 1 dJ4_append_15ec4_1 rfl rfl ?_
  cases h
theorem c_J4_append_15ec4 (l : Launch) (hls : l.stackTraces = false) {S : mS} {a0 : Nat} {a1 : Nat} {o : Rs Nat} (h : f_J4_append_15ec4 S a0 a1 = some o) : CT (fun r : Nat => some (.ref r)) l yJ4_append_15ec4 (.code yJ4_append_15ec4 cJ4_append_15ec4 2 (Option.some (Jvm.ClassFile.FieldType.object "java/lang/StringBuilder"))) rm_J4_append_15ec4 S [.ref a0, .ref a1] o := ct_of (by decide +kernel) hls (Nat.le_of_ble_eq_true rfl) (fun C hl hC hE => t_J4_append_15ec4 hls hC hl hE h)
abbrev rm_J4_append_cf468 : Room := { frames := 8, cells := 0, slots := 0, locals := 150 }
def f_J4_append_cf468 (S : mS) (a0 : Nat) (a1 : Int32) : Option (Rs Nat) :=
  none
set_option maxHeartbeats 2000000 in
set_option maxRecDepth 100000 in
theorem t_J4_append_cf468 {l : Launch} (hls : l.stackTraces = false) {C : cT} (hC : CX C cJ4_append_cf468 2 yJ4_append_cf468 rm_J4_append_cf468) (hl : C.2.1 = l) {S0 : mS} (hE : CE C S0 (Option.some (Jvm.ClassFile.FieldType.object "java/lang/StringBuilder")) []) {o : Rs Nat} {S : mS} {a0 : Nat} {a1 : Int32} (h : f_J4_append_cf468 S a0 a1 = some o) : XX C 2 (QQ C (fun r : Nat => some (.ref r)) S0 o) 0 0 S 0 [(0, .ref a0), (1, .int a1)] [] := by
  unfold f_J4_append_cf468 at h
  refine x_aload_n (pc := 0) hC 0 dJ4_append_cf468_0 rfl rfl ?_
  refine x_iload_n (pc := 1) hC 1 dJ4_append_cf468_1 rfl rfl ?_
  cases h
theorem c_J4_append_cf468 (l : Launch) (hls : l.stackTraces = false) {S : mS} {a0 : Nat} {a1 : Int32} {o : Rs Nat} (h : f_J4_append_cf468 S a0 a1 = some o) : CT (fun r : Nat => some (.ref r)) l yJ4_append_cf468 (.code yJ4_append_cf468 cJ4_append_cf468 2 (Option.some (Jvm.ClassFile.FieldType.object "java/lang/StringBuilder"))) rm_J4_append_cf468 S [.ref a0, .int a1] o := ct_of (by decide +kernel) hls (Nat.le_of_ble_eq_true rfl) (fun C hl hC hE => t_J4_append_cf468 hls hC hl hE h)
abbrev rm_J2_newBytesLength_0f7a4 : Room := { frames := 8, cells := 0, slots := 0, locals := 150 }
def f_J2_newBytesLength_0f7a4 (S : mS) (a0 : Int32) : Option (Rs Int32) :=
  if 0 ≤ a0 then (if a0 < (1073741823 : Int32) then (lt9 (a0 <<< ((1 : Int32) &&& 31)) fun x1 => some (.inl x1, S)) else (none)) else (none)
set_option maxHeartbeats 2000000 in
set_option maxRecDepth 100000 in
theorem t_J2_newBytesLength_0f7a4 {l : Launch} (hls : l.stackTraces = false) {C : cT} (hC : CX C cJ2_newBytesLength_0f7a4 1 yJ2_newBytesLength_0f7a4 rm_J2_newBytesLength_0f7a4) (hl : C.2.1 = l) {S0 : mS} (hE : CE C S0 (Option.some Jvm.ClassFile.FieldType.int) []) {o : Rs Int32} {S : mS} {a0 : Int32} (h : f_J2_newBytesLength_0f7a4 S a0 = some o) : XX C 1 (QQ C (fun r : Int32 => some (.int r)) S0 o) 0 0 S 0 [(0, .int a0)] [] := by
  unfold f_J2_newBytesLength_0f7a4 at h
  refine x_iload_n (pc := 0) hC 0 dJ2_newBytesLength_0f7a4_0 rfl rfl ?_
  refine x_if_ge (pc := 1) hC 12 dJ2_newBytesLength_0f7a4_1 (by decide) (fun c3 => ?_) (fun c3 => ?_)
  · rw [if_pos c3] at h
    refine x_iload_n (pc := 12) hC 0 dJ2_newBytesLength_0f7a4_12 rfl rfl ?_
    refine x_ldc (pc := 13) hC wm_2366 dJ2_newBytesLength_0f7a4_13 ?_
    refine x_icmp_lt (pc := 15) hC 55 dJ2_newBytesLength_0f7a4_15 (by decide) (fun c2 => ?_) (fun c2 => ?_)
    · rw [if_pos c2] at h
      refine x_iload_n (pc := 55) hC 0 dJ2_newBytesLength_0f7a4_55 rfl rfl ?_
      refine x_iconst (pc := 56) (v := (1 : Int32)) hC dJ2_newBytesLength_0f7a4_56 (by decide) ?_
      refine x_ishlv (pc := 57) hC dJ2_newBytesLength_0f7a4_57 (fun x1 hx1 => ?_)
      replace h := lt_x hx1 h
      exact x_ireturn (pc := 58) hC hE dJ2_newBytesLength_0f7a4_58 (so h) (Nat.le_of_ble_eq_true rfl) (Nat.le_of_ble_eq_true rfl)
    · rw [if_neg c2] at h
      cases h
  · rw [if_neg c3] at h
    cases h
theorem c_J2_newBytesLength_0f7a4 (l : Launch) (hls : l.stackTraces = false) {S : mS} {a0 : Int32} {o : Rs Int32} (h : f_J2_newBytesLength_0f7a4 S a0 = some o) : CT (fun r : Int32 => some (.int r)) l yJ2_newBytesLength_0f7a4 (.code yJ2_newBytesLength_0f7a4 cJ2_newBytesLength_0f7a4 1 (Option.some Jvm.ClassFile.FieldType.int)) rm_J2_newBytesLength_0f7a4 S [.int a0] o := ct_of (by decide +kernel) hls (Nat.le_of_ble_eq_true rfl) (fun C hl hC hE => t_J2_newBytesLength_0f7a4 hls hC hl hE h)
abbrev rm_J2_newBytesFor_77867 : Room := { frames := 9, cells := 0, slots := 0, locals := 170 }
def f_J2_newBytesFor_77867 (S : mS) (a0 : Int32) : Option (Rs Nat) :=
  bd (f_J2_newBytesLength_0f7a4 S a0) fun x1 S2 => none
set_option maxHeartbeats 2000000 in
set_option maxRecDepth 100000 in
theorem t_J2_newBytesFor_77867 {l : Launch} (hls : l.stackTraces = false) {C : cT} (hC : CX C cJ2_newBytesFor_77867 1 yJ2_newBytesFor_77867 rm_J2_newBytesFor_77867) (hl : C.2.1 = l) {S0 : mS} (hE : CE C S0 (Option.some (Jvm.ClassFile.FieldType.array Jvm.ClassFile.FieldType.byte)) []) {o : Rs Nat} {S : mS} {a0 : Int32} (h : f_J2_newBytesFor_77867 S a0 = some o) : XX C 1 (QQ C (fun r : Nat => some (.ref r)) S0 o) 0 0 S 0 [(0, .int a0)] [] := by
  unfold f_J2_newBytesFor_77867 at h
  refine x_iload_n (pc := 0) hC 0 dJ2_newBytesFor_77867_0 rfl rfl ?_
  obtain ⟨o3, ho3, h⟩ := bd_some h
  refine x_callS (pc := 1) (As := [.int a0]) (rest := []) hC hl (c_J2_newBytesLength_0f7a4 l hls ho3) lk_RJ2_11 dJ2_newBytesFor_77867_1 rfl rfl (Nat.le_of_ble_eq_true rfl) ⟨Nat.le_of_ble_eq_true rfl, Nat.le_of_ble_eq_true rfl⟩ ⟨(Nat.le_of_ble_eq_true rfl), (Nat.le_of_ble_eq_true rfl)⟩ ?_
  rcases o3 with ⟨x1 | E4, S2⟩
  · refine xk_i ?_
    replace h := bk_l h
    cases h
  · exact xk_r (xt_out hC hE (bk_r h) (Nat.le_of_ble_eq_true rfl) (Nat.le_of_ble_eq_true rfl))
theorem c_J2_newBytesFor_77867 (l : Launch) (hls : l.stackTraces = false) {S : mS} {a0 : Int32} {o : Rs Nat} (h : f_J2_newBytesFor_77867 S a0 = some o) : CT (fun r : Nat => some (.ref r)) l yJ2_newBytesFor_77867 (.code yJ2_newBytesFor_77867 cJ2_newBytesFor_77867 1 (Option.some (Jvm.ClassFile.FieldType.array Jvm.ClassFile.FieldType.byte))) rm_J2_newBytesFor_77867 S [.int a0] o := ct_of (by decide +kernel) hls (Nat.le_of_ble_eq_true rfl) (fun C hl hC hE => t_J2_newBytesFor_77867 hls hC hl hE h)
abbrev rm_J5_init_d00df : Room := { frames := 8, cells := 0, slots := 0, locals := 150 }
def f_J5_init_d00df (S : mS) (a0 : Nat) (a1 : Int32) : Option (Rs Unit) :=
  gd (gK S a0 = 2) (none)
set_option maxHeartbeats 2000000 in
set_option maxRecDepth 100000 in
theorem t_J5_init_d00df {l : Launch} (hls : l.stackTraces = false) {C : cT} (hC : CX C cJ5_init_d00df 2 yJ5_init_d00df rm_J5_init_d00df) (hl : C.2.1 = l) {S0 : mS} (hE : CE C S0 (Option.none : Option Jvm.ClassFile.FieldType) []) {o : Rs Unit} {S : mS} {a0 : Nat} {a1 : Int32} (h : f_J5_init_d00df S a0 a1 = some o) : XX C 2 (QQ C (fun _ : Unit => none) S0 o) 0 0 S 0 [(0, .ref a0), (1, .int a1)] [] := by
  unfold f_J5_init_d00df at h
  refine x_aload_n (pc := 0) hC 0 dJ5_init_d00df_0 rfl rfl ?_
  obtain ⟨g1, h⟩ := gd_some h
  refine x_objInit (pc := 1) hC wm_2358 wm_94 wm_95 dJ5_init_d00df_1 (by rw [g1]; decide) (Nat.le_of_ble_eq_true rfl) (Nat.le_of_ble_eq_true rfl) ?_
  cases h
theorem c_J5_init_d00df (l : Launch) (hls : l.stackTraces = false) {S : mS} {a0 : Nat} {a1 : Int32} {o : Rs Unit} (h : f_J5_init_d00df S a0 a1 = some o) : CT (fun _ : Unit => none) l yJ5_init_d00df (.code yJ5_init_d00df cJ5_init_d00df 2 (Option.none : Option Jvm.ClassFile.FieldType)) rm_J5_init_d00df S [.ref a0, .int a1] o := ct_of (by decide +kernel) hls (Nat.le_of_ble_eq_true rfl) (fun C hl hC hE => t_J5_init_d00df hls hC hl hE h)
abbrev rm_J4_init_da8c8 : Room := { frames := 9, cells := 0, slots := 0, locals := 171 }
def f_J4_init_da8c8 (S : mS) (a0 : Nat) : Option (Rs Unit) :=
  gd (gK S a0 = 2) (bd (f_J5_init_d00df S a0 (16 : Int32)) fun _ S3 => some (.inl (), S3))
set_option maxHeartbeats 2000000 in
set_option maxRecDepth 100000 in
theorem t_J4_init_da8c8 {l : Launch} (hls : l.stackTraces = false) {C : cT} (hC : CX C cJ4_init_da8c8 1 yJ4_init_da8c8 rm_J4_init_da8c8) (hl : C.2.1 = l) {S0 : mS} (hE : CE C S0 (Option.none : Option Jvm.ClassFile.FieldType) []) {o : Rs Unit} {S : mS} {a0 : Nat} (h : f_J4_init_da8c8 S a0 = some o) : XX C 1 (QQ C (fun _ : Unit => none) S0 o) 0 0 S 0 [(0, .ref a0)] [] := by
  unfold f_J4_init_da8c8 at h
  refine x_aload_n (pc := 0) hC 0 dJ4_init_da8c8_0 rfl rfl ?_
  refine x_bipush (pc := 1) (v := (16 : Int32)) hC dJ4_init_da8c8_1 (by decide) ?_
  obtain ⟨g1, h⟩ := gd_some h
  obtain ⟨o4, ho4, h⟩ := bd_some h
  refine x_callI (pc := 3) (As := [.int (16 : Int32)]) (rest := []) hC hl (c_J5_init_d00df l hls ho4) lk_RJ4_1 (by rw [g1]; decide) dJ4_init_da8c8_3 rfl rfl (Nat.le_of_ble_eq_true rfl) ⟨Nat.le_of_ble_eq_true rfl, Nat.le_of_ble_eq_true rfl⟩ ⟨(Nat.le_of_ble_eq_true rfl), (Nat.le_of_ble_eq_true rfl)⟩ ?_
  rcases o4 with ⟨_ | E5, S3⟩
  · refine xk_v ?_
    replace h := bk_l h
    exact x_vreturn (pc := 6) hC hE dJ4_init_da8c8_6 (so h) (Nat.le_of_ble_eq_true rfl) (Nat.le_of_ble_eq_true rfl)
  · exact xk_r (xt_out hC hE (bk_r h) (Nat.le_of_ble_eq_true rfl) (Nat.le_of_ble_eq_true rfl))
theorem c_J4_init_da8c8 (l : Launch) (hls : l.stackTraces = false) {S : mS} {a0 : Nat} {o : Rs Unit} (h : f_J4_init_da8c8 S a0 = some o) : CT (fun _ : Unit => none) l yJ4_init_da8c8 (.code yJ4_init_da8c8 cJ4_init_da8c8 1 (Option.none : Option Jvm.ClassFile.FieldType)) rm_J4_init_da8c8 S [.ref a0] o := ct_of (by decide +kernel) hls (Nat.le_of_ble_eq_true rfl) (fun C hl hC hE => t_J4_init_da8c8 hls hC hl hE h)
abbrev rm_J2_coderFromArrayLen_85cad : Room := { frames := 8, cells := 0, slots := 0, locals := 150 }
def f_J2_coderFromArrayLen_85cad (S : mS) (a0 : Nat) (a1 : Int32) : Option (Rs Int32) :=
  gd (gK S a0 = 33) (lt9 (Int32.ofNat (gZ S a0)) fun x2 => lt9 (a1 - x2) fun x3 => none)
set_option maxHeartbeats 2000000 in
set_option maxRecDepth 100000 in
theorem t_J2_coderFromArrayLen_85cad {l : Launch} (hls : l.stackTraces = false) {C : cT} (hC : CX C cJ2_coderFromArrayLen_85cad 2 yJ2_coderFromArrayLen_85cad rm_J2_coderFromArrayLen_85cad) (hl : C.2.1 = l) {S0 : mS} (hE : CE C S0 (Option.some Jvm.ClassFile.FieldType.byte) []) {o : Rs Int32} {S : mS} {a0 : Nat} {a1 : Int32} (h : f_J2_coderFromArrayLen_85cad S a0 a1 = some o) : XX C 2 (QQ C (fun r : Int32 => some (.int r)) S0 o) 0 0 S 0 [(0, .ref a0), (1, .int a1)] [] := by
  unfold f_J2_coderFromArrayLen_85cad at h
  refine x_iload_n (pc := 0) hC 1 dJ2_coderFromArrayLen_85cad_0 rfl rfl ?_
  refine x_aload_n (pc := 1) hC 0 dJ2_coderFromArrayLen_85cad_1 rfl rfl ?_
  obtain ⟨g1, h⟩ := gd_some h
  refine x_alenv (pc := 2) (t0 := 3) hC dJ2_coderFromArrayLen_85cad_2 g1 (by decide) (fun _ => rfl) (fun x2 hx2 => ?_)
  replace h := lt_x hx2 h
  refine x_isubv (pc := 3) hC dJ2_coderFromArrayLen_85cad_3 (fun x3 hx3 => ?_)
  replace h := lt_x hx3 h
  refine x_bipush (pc := 4) (v := (31 : Int32)) hC dJ2_coderFromArrayLen_85cad_4 (by decide) ?_
  cases h
theorem c_J2_coderFromArrayLen_85cad (l : Launch) (hls : l.stackTraces = false) {S : mS} {a0 : Nat} {a1 : Int32} {o : Rs Int32} (h : f_J2_coderFromArrayLen_85cad S a0 a1 = some o) : CT (fun r : Int32 => some (.int r)) l yJ2_coderFromArrayLen_85cad (.code yJ2_coderFromArrayLen_85cad cJ2_coderFromArrayLen_85cad 2 (Option.some Jvm.ClassFile.FieldType.byte)) rm_J2_coderFromArrayLen_85cad S [.ref a0, .int a1] o := ct_of (by decide +kernel) hls (Nat.le_of_ble_eq_true rfl) (fun C hl hC hE => t_J2_coderFromArrayLen_85cad hls hC hl hE h)
abbrev rm_J3_checkFromIndexSize_8c36e : Room := { frames := 8, cells := 0, slots := 0, locals := 150 }
def f_J3_checkFromIndexSize_8c36e_15  (S : mS) (a0 : Int32) (a1 : Int32) (a2 : Int32) (a3 : Nat) : Option (Rs Int32) :=
  none
set_option maxHeartbeats 2000000 in
set_option maxRecDepth 100000 in
theorem t_J3_checkFromIndexSize_8c36e_15 {l : Launch} (hls : l.stackTraces = false) {C : cT} (hC : CX C cJ3_checkFromIndexSize_8c36e 4 yJ3_checkFromIndexSize_8c36e rm_J3_checkFromIndexSize_8c36e) (hl : C.2.1 = l) {S0 : mS} (hE : CE C S0 (Option.some Jvm.ClassFile.FieldType.int) []) {o : Rs Int32} {S : mS} {a0 : Int32} {a1 : Int32} {a2 : Int32} {a3 : Nat} (h : f_J3_checkFromIndexSize_8c36e_15  S a0 a1 a2 a3 = some o) : XX C 4 (QQ C (fun r : Int32 => some (.int r)) S0 o) (0) (0) S 15 [(0, .int a0), (1, .int a1), (2, .int a2), (3, .ref a3)] [] := by
  unfold f_J3_checkFromIndexSize_8c36e_15 at h
  refine x_aload_n (pc := 15) hC 3 dJ3_checkFromIndexSize_8c36e_15 rfl rfl ?_
  refine x_iload_n (pc := 16) hC 0 dJ3_checkFromIndexSize_8c36e_16 rfl rfl ?_
  refine x_iload_n (pc := 17) hC 1 dJ3_checkFromIndexSize_8c36e_17 rfl rfl ?_
  refine x_iload_n (pc := 18) hC 2 dJ3_checkFromIndexSize_8c36e_18 rfl rfl ?_
  cases h
def f_J3_checkFromIndexSize_8c36e (S : mS) (a0 : Int32) (a1 : Int32) (a2 : Int32) (a3 : Nat) : Option (Rs Int32) :=
  lt9 (a2 ||| a0) fun x1 => lt9 (x1 ||| a1) fun x2 => if x2 < 0 then (f_J3_checkFromIndexSize_8c36e_15  S a0 a1 a2 a3) else (lt9 (a2 - a0) fun x3 => if a1 ≤ x3 then (some (.inl a0, S)) else (f_J3_checkFromIndexSize_8c36e_15  S a0 a1 a2 a3))
set_option maxHeartbeats 2000000 in
set_option maxRecDepth 100000 in
theorem t_J3_checkFromIndexSize_8c36e {l : Launch} (hls : l.stackTraces = false) {C : cT} (hC : CX C cJ3_checkFromIndexSize_8c36e 4 yJ3_checkFromIndexSize_8c36e rm_J3_checkFromIndexSize_8c36e) (hl : C.2.1 = l) {S0 : mS} (hE : CE C S0 (Option.some Jvm.ClassFile.FieldType.int) []) {o : Rs Int32} {S : mS} {a0 : Int32} {a1 : Int32} {a2 : Int32} {a3 : Nat} (h : f_J3_checkFromIndexSize_8c36e S a0 a1 a2 a3 = some o) : XX C 4 (QQ C (fun r : Int32 => some (.int r)) S0 o) 0 0 S 0 [(0, .int a0), (1, .int a1), (2, .int a2), (3, .ref a3)] [] := by
  unfold f_J3_checkFromIndexSize_8c36e at h
  refine x_iload_n (pc := 0) hC 2 dJ3_checkFromIndexSize_8c36e_0 rfl rfl ?_
  refine x_iload_n (pc := 1) hC 0 dJ3_checkFromIndexSize_8c36e_1 rfl rfl ?_
  refine x_iorv (pc := 2) hC dJ3_checkFromIndexSize_8c36e_2 (fun x1 hx1 => ?_)
  replace h := lt_x hx1 h
  refine x_iload_n (pc := 3) hC 1 dJ3_checkFromIndexSize_8c36e_3 rfl rfl ?_
  refine x_iorv (pc := 4) hC dJ3_checkFromIndexSize_8c36e_4 (fun x2 hx2 => ?_)
  replace h := lt_x hx2 h
  refine x_if_lt (pc := 5) hC 15 dJ3_checkFromIndexSize_8c36e_5 (by decide) (fun c5 => ?_) (fun c5 => ?_)
  · rw [if_pos c5] at h
    refine x_pick [0, 1, 2, 3] rfl ?_
    exact t_J3_checkFromIndexSize_8c36e_15 hls hC hl hE h
  · rw [if_neg c5] at h
    refine x_iload_n (pc := 8) hC 1 dJ3_checkFromIndexSize_8c36e_8 rfl rfl ?_
    refine x_iload_n (pc := 9) hC 2 dJ3_checkFromIndexSize_8c36e_9 rfl rfl ?_
    refine x_iload_n (pc := 10) hC 0 dJ3_checkFromIndexSize_8c36e_10 rfl rfl ?_
    refine x_isubv (pc := 11) hC dJ3_checkFromIndexSize_8c36e_11 (fun x3 hx3 => ?_)
    replace h := lt_x hx3 h
    refine x_icmp_le (pc := 12) hC 23 dJ3_checkFromIndexSize_8c36e_12 (by decide) (fun c4 => ?_) (fun c4 => ?_)
    · rw [if_pos c4] at h
      refine x_iload_n (pc := 23) hC 0 dJ3_checkFromIndexSize_8c36e_23 rfl rfl ?_
      exact x_ireturn (pc := 24) hC hE dJ3_checkFromIndexSize_8c36e_24 (so h) (Nat.le_of_ble_eq_true rfl) (Nat.le_of_ble_eq_true rfl)
    · rw [if_neg c4] at h
      refine x_pick [0, 1, 2, 3] rfl ?_
      exact t_J3_checkFromIndexSize_8c36e_15 hls hC hl hE h
theorem c_J3_checkFromIndexSize_8c36e (l : Launch) (hls : l.stackTraces = false) {S : mS} {a0 : Int32} {a1 : Int32} {a2 : Int32} {a3 : Nat} {o : Rs Int32} (h : f_J3_checkFromIndexSize_8c36e S a0 a1 a2 a3 = some o) : CT (fun r : Int32 => some (.int r)) l yJ3_checkFromIndexSize_8c36e (.code yJ3_checkFromIndexSize_8c36e cJ3_checkFromIndexSize_8c36e 4 (Option.some Jvm.ClassFile.FieldType.int)) rm_J3_checkFromIndexSize_8c36e S [.int a0, .int a1, .int a2, .ref a3] o := ct_of (by decide +kernel) hls (Nat.le_of_ble_eq_true rfl) (fun C hl hC hE => t_J3_checkFromIndexSize_8c36e hls hC hl hE h)
abbrev rm_J0_checkBoundsOffCount_cabcc : Room := { frames := 8, cells := 0, slots := 0, locals := 150 }
def f_J0_checkBoundsOffCount_cabcc (S : mS) (a0 : Int32) (a1 : Int32) (a2 : Int32) : Option (Rs Int32) :=
  none
set_option maxHeartbeats 2000000 in
set_option maxRecDepth 100000 in
theorem t_J0_checkBoundsOffCount_cabcc {l : Launch} (hls : l.stackTraces = false) {C : cT} (hC : CX C cJ0_checkBoundsOffCount_cabcc 3 yJ0_checkBoundsOffCount_cabcc rm_J0_checkBoundsOffCount_cabcc) (hl : C.2.1 = l) {S0 : mS} (hE : CE C S0 (Option.some Jvm.ClassFile.FieldType.int) []) {o : Rs Int32} {S : mS} {a0 : Int32} {a1 : Int32} {a2 : Int32} (h : f_J0_checkBoundsOffCount_cabcc S a0 a1 a2 = some o) : XX C 3 (QQ C (fun r : Int32 => some (.int r)) S0 o) 0 0 S 0 [(0, .int a0), (1, .int a1), (2, .int a2)] [] := by
  unfold f_J0_checkBoundsOffCount_cabcc at h
  refine x_iload_n (pc := 0) hC 0 dJ0_checkBoundsOffCount_cabcc_0 rfl rfl ?_
  refine x_iload_n (pc := 1) hC 1 dJ0_checkBoundsOffCount_cabcc_1 rfl rfl ?_
  refine x_iload_n (pc := 2) hC 2 dJ0_checkBoundsOffCount_cabcc_2 rfl rfl ?_
  cases h
theorem c_J0_checkBoundsOffCount_cabcc (l : Launch) (hls : l.stackTraces = false) {S : mS} {a0 : Int32} {a1 : Int32} {a2 : Int32} {o : Rs Int32} (h : f_J0_checkBoundsOffCount_cabcc S a0 a1 a2 = some o) : CT (fun r : Int32 => some (.int r)) l yJ0_checkBoundsOffCount_cabcc (.code yJ0_checkBoundsOffCount_cabcc cJ0_checkBoundsOffCount_cabcc 3 (Option.some Jvm.ClassFile.FieldType.int)) rm_J0_checkBoundsOffCount_cabcc S [.int a0, .int a1, .int a2] o := ct_of (by decide +kernel) hls (Nat.le_of_ble_eq_true rfl) (fun C hl hC hE => t_J0_checkBoundsOffCount_cabcc hls hC hl hE h)
abbrev rm_J2_checkBoundsOffCount_d044e : Room := { frames := 9, cells := 0, slots := 0, locals := 172 }
def f_J2_checkBoundsOffCount_d044e (S : mS) (a0 : Int32) (a1 : Int32) (a2 : Nat) : Option (Rs Unit) :=
  bd (f_J2_length_9d52b S a2) fun x1 S2 => bd (f_J0_checkBoundsOffCount_cabcc S2 a0 a1 x1) fun x5 S6 => some (.inl (), S6)
set_option maxHeartbeats 2000000 in
set_option maxRecDepth 100000 in
theorem t_J2_checkBoundsOffCount_d044e {l : Launch} (hls : l.stackTraces = false) {C : cT} (hC : CX C cJ2_checkBoundsOffCount_d044e 3 yJ2_checkBoundsOffCount_d044e rm_J2_checkBoundsOffCount_d044e) (hl : C.2.1 = l) {S0 : mS} (hE : CE C S0 (Option.none : Option Jvm.ClassFile.FieldType) []) {o : Rs Unit} {S : mS} {a0 : Int32} {a1 : Int32} {a2 : Nat} (h : f_J2_checkBoundsOffCount_d044e S a0 a1 a2 = some o) : XX C 3 (QQ C (fun _ : Unit => none) S0 o) 0 0 S 0 [(0, .int a0), (1, .int a1), (2, .ref a2)] [] := by
  unfold f_J2_checkBoundsOffCount_d044e at h
  refine x_iload_n (pc := 0) hC 0 dJ2_checkBoundsOffCount_d044e_0 rfl rfl ?_
  refine x_iload_n (pc := 1) hC 1 dJ2_checkBoundsOffCount_d044e_1 rfl rfl ?_
  refine x_aload_n (pc := 2) hC 2 dJ2_checkBoundsOffCount_d044e_2 rfl rfl ?_
  obtain ⟨o3, ho3, h⟩ := bd_some h
  refine x_callS (pc := 3) (As := [.ref a2]) (rest := [.int a1, .int a0]) hC hl (c_J2_length_9d52b l hls ho3) lk_RJ2_48 dJ2_checkBoundsOffCount_d044e_3 rfl rfl (Nat.le_of_ble_eq_true rfl) ⟨Nat.le_of_ble_eq_true rfl, Nat.le_of_ble_eq_true rfl⟩ ⟨(Nat.le_of_ble_eq_true rfl), (Nat.le_of_ble_eq_true rfl)⟩ ?_
  rcases o3 with ⟨x1 | E4, S2⟩
  · refine xk_i ?_
    replace h := bk_l h
    obtain ⟨o7, ho7, h⟩ := bd_some h
    refine x_callS (pc := 6) (As := [.int a0, .int a1, .int x1]) (rest := []) hC hl (c_J0_checkBoundsOffCount_cabcc l hls ho7) lk_RJ2_419 dJ2_checkBoundsOffCount_d044e_6 rfl rfl (Nat.le_of_ble_eq_true rfl) ⟨Nat.le_of_ble_eq_true rfl, Nat.le_of_ble_eq_true rfl⟩ ⟨(Nat.le_of_ble_eq_true rfl), (Nat.le_of_ble_eq_true rfl)⟩ ?_
    rcases o7 with ⟨x5 | E8, S6⟩
    · refine xk_i ?_
      replace h := bk_l h
      refine x_pop (pc := 9) hC dJ2_checkBoundsOffCount_d044e_9 rfl ?_
      exact x_vreturn (pc := 10) hC hE dJ2_checkBoundsOffCount_d044e_10 (so h) (Nat.le_of_ble_eq_true rfl) (Nat.le_of_ble_eq_true rfl)
    · exact xk_r (xt_out hC hE (bk_r h) (Nat.le_of_ble_eq_true rfl) (Nat.le_of_ble_eq_true rfl))
  · exact xk_r (xt_out hC hE (bk_r h) (Nat.le_of_ble_eq_true rfl) (Nat.le_of_ble_eq_true rfl))
theorem c_J2_checkBoundsOffCount_d044e (l : Launch) (hls : l.stackTraces = false) {S : mS} {a0 : Int32} {a1 : Int32} {a2 : Nat} {o : Rs Unit} (h : f_J2_checkBoundsOffCount_d044e S a0 a1 a2 = some o) : CT (fun _ : Unit => none) l yJ2_checkBoundsOffCount_d044e (.code yJ2_checkBoundsOffCount_d044e cJ2_checkBoundsOffCount_d044e 3 (Option.none : Option Jvm.ClassFile.FieldType)) rm_J2_checkBoundsOffCount_d044e S [.int a0, .int a1, .ref a2] o := ct_of (by decide +kernel) hls (Nat.le_of_ble_eq_true rfl) (fun C hl hC hE => t_J2_checkBoundsOffCount_d044e hls hC hl hE h)
abbrev rm_J2_compress_5af95 : Room := { frames := 10, cells := 0, slots := 0, locals := 194 }
def f_J2_compress_5af95_10  : Nat → mS → Nat → Int32 → Nat → Int32 → Int32 → Int32 → Option (Rs Int32)
  | 0, _, _, _, _, _, _, _ => none
  | k + 1, S, a0, a1, a2, a3, a4, a5 => if a4 ≤ a5 then (some (.inl a4, S)) else (bd (f_J2_getChar_3b067 S a0 a1) fun x1 S2 => if x1 ≤ (255 : Int32) then (none) else (some (.inl a5, S2)))
set_option maxHeartbeats 2000000 in
set_option maxRecDepth 100000 in
theorem t_J2_compress_5af95_10 {l : Launch} (hls : l.stackTraces = false) {C : cT} (hC : CX C cJ2_compress_5af95 7 yJ2_compress_5af95 rm_J2_compress_5af95) (hl : C.2.1 = l) {S0 : mS} (hE : CE C S0 (Option.some Jvm.ClassFile.FieldType.int) []) {o : Rs Int32} : ∀ (k : Nat) (S : mS) (a0 : Nat) (a1 : Int32) (a2 : Nat) (a3 : Int32) (a4 : Int32) (a5 : Int32), f_J2_compress_5af95_10  k S a0 a1 a2 a3 a4 a5 = some o → XX C 7 (QQ C (fun r : Int32 => some (.int r)) S0 o) (0) (0) S 10 [(0, .ref a0), (1, .int a1), (2, .ref a2), (3, .int a3), (4, .int a4), (5, .int a5)] [] := by
  intro k
  induction k with
  | zero => intro S a0 a1 a2 a3 a4 a5 h; cases h
  | succ k ih =>
    intro S a0 a1 a2 a3 a4 a5 h
    unfold f_J2_compress_5af95_10 at h
    dsimp only at h
    refine x_iload (pc := 10) hC 5 dJ2_compress_5af95_10 rfl ?_
    refine x_iload (pc := 12) hC 4 dJ2_compress_5af95_12 rfl ?_
    refine x_icmp_ge (pc := 14) hC 53 dJ2_compress_5af95_14 (by decide) (fun c6 => ?_) (fun c6 => ?_)
    · rw [if_pos c6] at h
      refine x_iload (pc := 53) hC 4 dJ2_compress_5af95_53 rfl ?_
      exact x_ireturn (pc := 55) hC hE dJ2_compress_5af95_55 (so h) (Nat.le_of_ble_eq_true rfl) (Nat.le_of_ble_eq_true rfl)
    · rw [if_neg c6] at h
      refine x_aload_n (pc := 17) hC 0 dJ2_compress_5af95_17 rfl rfl ?_
      refine x_iload_n (pc := 18) hC 1 dJ2_compress_5af95_18 rfl rfl ?_
      obtain ⟨o3, ho3, h⟩ := bd_some h
      refine x_callS (pc := 19) (As := [.ref a0, .int a1]) (rest := []) hC hl (c_J2_getChar_3b067 l hls ho3) lk_RJ2_71 dJ2_compress_5af95_19 rfl rfl (Nat.le_of_ble_eq_true rfl) ⟨Nat.le_of_ble_eq_true rfl, Nat.le_of_ble_eq_true rfl⟩ ⟨(Nat.le_of_ble_eq_true rfl), (Nat.le_of_ble_eq_true rfl)⟩ ?_
      rcases o3 with ⟨x1 | E4, S2⟩
      · refine xk_i ?_
        replace h := bk_l h
        refine x_istore (pc := 22) hC dJ2_compress_5af95_22 (by decide) (by decide) rfl ?_
        refine x_iload (pc := 24) hC 0 dJ2_compress_5af95_24 rfl ?_
        refine x_sipush (pc := 26) (v := (255 : Int32)) hC dJ2_compress_5af95_26 (by decide) ?_
        refine x_icmp_le (pc := 29) hC 35 dJ2_compress_5af95_29 (by decide) (fun c5 => ?_) (fun c5 => ?_)
        · rw [if_pos c5] at h
          refine x_aload_n (pc := 35) hC 3 dJ2_compress_5af95_35 rfl rfl ?_
          refine x_iload_n (pc := 36) hC 4 dJ2_compress_5af95_36 rfl rfl ?_
          refine x_iload (pc := 37) hC 0 dJ2_compress_5af95_37 rfl ?_
          cases h
        · rw [if_neg c5] at h
          refine x_iload (pc := 32) hC 6 dJ2_compress_5af95_32 rfl ?_
          exact x_ireturn (pc := 34) hC hE dJ2_compress_5af95_34 (so h) (Nat.le_of_ble_eq_true rfl) (Nat.le_of_ble_eq_true rfl)
      · exact xk_r (xt_out hC hE (bk_r h) (Nat.le_of_ble_eq_true rfl) (Nat.le_of_ble_eq_true rfl))
def f_J2_compress_5af95 (S : mS) (a0 : Nat) (a1 : Int32) (a2 : Nat) (a3 : Int32) (a4 : Int32) : Option (Rs Int32) :=
  bd (f_J2_checkBoundsOffCount_d044e S a1 a4 a0) fun _ S2 => f_J2_compress_5af95_10  16 S2 a0 a1 a2 a3 a4 (0 : Int32)
set_option maxHeartbeats 2000000 in
set_option maxRecDepth 100000 in
theorem t_J2_compress_5af95 {l : Launch} (hls : l.stackTraces = false) {C : cT} (hC : CX C cJ2_compress_5af95 7 yJ2_compress_5af95 rm_J2_compress_5af95) (hl : C.2.1 = l) {S0 : mS} (hE : CE C S0 (Option.some Jvm.ClassFile.FieldType.int) []) {o : Rs Int32} {S : mS} {a0 : Nat} {a1 : Int32} {a2 : Nat} {a3 : Int32} {a4 : Int32} (h : f_J2_compress_5af95 S a0 a1 a2 a3 a4 = some o) : XX C 7 (QQ C (fun r : Int32 => some (.int r)) S0 o) 0 0 S 0 [(0, .ref a0), (1, .int a1), (2, .ref a2), (3, .int a3), (4, .int a4)] [] := by
  unfold f_J2_compress_5af95 at h
  refine x_iload_n (pc := 0) hC 1 dJ2_compress_5af95_0 rfl rfl ?_
  refine x_iload (pc := 1) hC 4 dJ2_compress_5af95_1 rfl ?_
  refine x_aload_n (pc := 3) hC 0 dJ2_compress_5af95_3 rfl rfl ?_
  obtain ⟨o3, ho3, h⟩ := bd_some h
  refine x_callS (pc := 4) (As := [.int a1, .int a4, .ref a0]) (rest := []) hC hl (c_J2_checkBoundsOffCount_d044e l hls ho3) lk_RJ2_173 dJ2_compress_5af95_4 rfl rfl (Nat.le_of_ble_eq_true rfl) ⟨Nat.le_of_ble_eq_true rfl, Nat.le_of_ble_eq_true rfl⟩ ⟨(Nat.le_of_ble_eq_true rfl), (Nat.le_of_ble_eq_true rfl)⟩ ?_
  rcases o3 with ⟨_ | E4, S2⟩
  · refine xk_v ?_
    replace h := bk_l h
    refine x_iconst (pc := 7) (v := (0 : Int32)) hC dJ2_compress_5af95_7 (by decide) ?_
    refine x_istore (pc := 8) hC dJ2_compress_5af95_8 (by decide) (by decide) rfl ?_
    refine x_pick [1, 2, 3, 4, 5, 0] rfl ?_
    exact t_J2_compress_5af95_10 hls hC hl hE 16 _ _ _ _ _ _ _ h
  · exact xk_r (xt_out hC hE (bk_r h) (Nat.le_of_ble_eq_true rfl) (Nat.le_of_ble_eq_true rfl))
theorem c_J2_compress_5af95 (l : Launch) (hls : l.stackTraces = false) {S : mS} {a0 : Nat} {a1 : Int32} {a2 : Nat} {a3 : Int32} {a4 : Int32} {o : Rs Int32} (h : f_J2_compress_5af95 S a0 a1 a2 a3 a4 = some o) : CT (fun r : Int32 => some (.int r)) l yJ2_compress_5af95 (.code yJ2_compress_5af95 cJ2_compress_5af95 7 (Option.some Jvm.ClassFile.FieldType.int)) rm_J2_compress_5af95 S [.ref a0, .int a1, .ref a2, .int a3, .int a4] o := ct_of (by decide +kernel) hls (Nat.le_of_ble_eq_true rfl) (fun C hl hC hE => t_J2_compress_5af95 hls hC hl hE h)
abbrev rm_J4_append_bf812 : Room := { frames := 8, cells := 0, slots := 0, locals := 150 }
def f_J4_append_bf812 (S : mS) (a0 : Nat) (a1 : Int32) : Option (Rs Nat) :=
  none
set_option maxHeartbeats 2000000 in
set_option maxRecDepth 100000 in
theorem t_J4_append_bf812 {l : Launch} (hls : l.stackTraces = false) {C : cT} (hC : CX C cJ4_append_bf812 2 yJ4_append_bf812 rm_J4_append_bf812) (hl : C.2.1 = l) {S0 : mS} (hE : CE C S0 (Option.some (Jvm.ClassFile.FieldType.object "java/lang/StringBuilder")) []) {o : Rs Nat} {S : mS} {a0 : Nat} {a1 : Int32} (h : f_J4_append_bf812 S a0 a1 = some o) : XX C 2 (QQ C (fun r : Nat => some (.ref r)) S0 o) 0 0 S 0 [(0, .ref a0), (1, .int a1)] [] := by
  unfold f_J4_append_bf812 at h
  refine x_aload_n (pc := 0) hC 0 dJ4_append_bf812_0 rfl rfl ?_
  refine x_iload_n (pc := 1) hC 1 dJ4_append_bf812_1 rfl rfl ?_
  cases h
theorem c_J4_append_bf812 (l : Launch) (hls : l.stackTraces = false) {S : mS} {a0 : Nat} {a1 : Int32} {o : Rs Nat} (h : f_J4_append_bf812 S a0 a1 = some o) : CT (fun r : Nat => some (.ref r)) l yJ4_append_bf812 (.code yJ4_append_bf812 cJ4_append_bf812 2 (Option.some (Jvm.ClassFile.FieldType.object "java/lang/StringBuilder"))) rm_J4_append_bf812 S [.ref a0, .int a1] o := ct_of (by decide +kernel) hls (Nat.le_of_ble_eq_true rfl) (fun C hl hC hE => t_J4_append_bf812 hls hC hl hE h)
abbrev rm_J0_checkIndex_df160 : Room := { frames := 8, cells := 0, slots := 0, locals := 150 }
def f_J0_checkIndex_df160 (S : mS) (a0 : Int32) (a1 : Int32) : Option (Rs Unit) :=
  none
set_option maxHeartbeats 2000000 in
set_option maxRecDepth 100000 in
theorem t_J0_checkIndex_df160 {l : Launch} (hls : l.stackTraces = false) {C : cT} (hC : CX C cJ0_checkIndex_df160 2 yJ0_checkIndex_df160 rm_J0_checkIndex_df160) (hl : C.2.1 = l) {S0 : mS} (hE : CE C S0 (Option.none : Option Jvm.ClassFile.FieldType) []) {o : Rs Unit} {S : mS} {a0 : Int32} {a1 : Int32} (h : f_J0_checkIndex_df160 S a0 a1 = some o) : XX C 2 (QQ C (fun _ : Unit => none) S0 o) 0 0 S 0 [(0, .int a0), (1, .int a1)] [] := by
  unfold f_J0_checkIndex_df160 at h
  refine x_iload_n (pc := 0) hC 0 dJ0_checkIndex_df160_0 rfl rfl ?_
  refine x_iload_n (pc := 1) hC 1 dJ0_checkIndex_df160_1 rfl rfl ?_
  cases h
theorem c_J0_checkIndex_df160 (l : Launch) (hls : l.stackTraces = false) {S : mS} {a0 : Int32} {a1 : Int32} {o : Rs Unit} (h : f_J0_checkIndex_df160 S a0 a1 = some o) : CT (fun _ : Unit => none) l yJ0_checkIndex_df160 (.code yJ0_checkIndex_df160 cJ0_checkIndex_df160 2 (Option.none : Option Jvm.ClassFile.FieldType)) rm_J0_checkIndex_df160 S [.int a0, .int a1] o := ct_of (by decide +kernel) hls (Nat.le_of_ble_eq_true rfl) (fun C hl hC hE => t_J0_checkIndex_df160 hls hC hl hE h)
abbrev rm_J1_charAt_3b067 : Room := { frames := 9, cells := 0, slots := 0, locals := 171 }
def f_J1_charAt_3b067 (S : mS) (a0 : Nat) (a1 : Int32) : Option (Rs Int32) :=
  gd (gK S a0 = 33) (lt9 (Int32.ofNat (gZ S a0)) fun x2 => bd (f_J0_checkIndex_df160 S a1 x2) fun _ S4 => gd (gK S4 a0 = 33) (gd (¬ (a1 < 0 ∨ gZ S4 a0 ≤ (a1).toNatClampNeg)) (lt9 (gI S4 a0 (a1).toNatClampNeg) fun x10 => lt9 (x10 &&& (255 : Int32)) fun x11 => lt9 (((x11).toUInt32 % 65536).toInt32) fun x12 => gd ((x12.toUInt32.toUInt16.toUInt32.toInt32 = x12 ∧ 0 ≤ x12) ∧ x12 ≤ 65535) (some (.inl x12, S4)))))
set_option maxHeartbeats 2000000 in
set_option maxRecDepth 100000 in
theorem t_J1_charAt_3b067 {l : Launch} (hls : l.stackTraces = false) {C : cT} (hC : CX C cJ1_charAt_3b067 2 yJ1_charAt_3b067 rm_J1_charAt_3b067) (hl : C.2.1 = l) {S0 : mS} (hE : CE C S0 (Option.some Jvm.ClassFile.FieldType.char) []) {o : Rs Int32} {S : mS} {a0 : Nat} {a1 : Int32} (h : f_J1_charAt_3b067 S a0 a1 = some o) : XX C 2 (QQ C (fun r : Int32 => some (.int r)) S0 o) 0 0 S 0 [(0, .ref a0), (1, .int a1)] [] := by
  unfold f_J1_charAt_3b067 at h
  refine x_iload_n (pc := 0) hC 1 dJ1_charAt_3b067_0 rfl rfl ?_
  refine x_aload_n (pc := 1) hC 0 dJ1_charAt_3b067_1 rfl rfl ?_
  obtain ⟨g1, h⟩ := gd_some h
  refine x_alenv (pc := 2) (t0 := 3) hC dJ1_charAt_3b067_2 g1 (by decide) (fun _ => rfl) (fun x2 hx2 => ?_)
  replace h := lt_x hx2 h
  obtain ⟨o5, ho5, h⟩ := bd_some h
  refine x_callS (pc := 3) (As := [.int a1, .int x2]) (rest := []) hC hl (c_J0_checkIndex_df160 l hls ho5) lk_RJ1_9 dJ1_charAt_3b067_3 rfl rfl (Nat.le_of_ble_eq_true rfl) ⟨Nat.le_of_ble_eq_true rfl, Nat.le_of_ble_eq_true rfl⟩ ⟨(Nat.le_of_ble_eq_true rfl), (Nat.le_of_ble_eq_true rfl)⟩ ?_
  rcases o5 with ⟨_ | E6, S4⟩
  · refine xk_v ?_
    replace h := bk_l h
    refine x_aload_n (pc := 6) hC 0 dJ1_charAt_3b067_6 rfl rfl ?_
    refine x_iload_n (pc := 7) hC 1 dJ1_charAt_3b067_7 rfl rfl ?_
    obtain ⟨g9, h⟩ := gd_some h
    obtain ⟨g8, h⟩ := gd_some h
    refine x_yaldv (pc := 8) hC dJ1_charAt_3b067_8 g9 g8 (fun x10 hx10 => ?_)
    replace h := lt_x hx10 h
    refine x_sipush (pc := 9) (v := (255 : Int32)) hC dJ1_charAt_3b067_9 (by decide) ?_
    refine x_iandv (pc := 12) hC dJ1_charAt_3b067_12 (fun x11 hx11 => ?_)
    replace h := lt_x hx11 h
    refine x_i2cv (pc := 13) hC dJ1_charAt_3b067_13 (fun x12 hx12 => ?_)
    replace h := lt_x hx12 h
    obtain ⟨g13, h⟩ := gd_some h
    exact x_zreturn (pc := 14) hC hE dJ1_charAt_3b067_14 (nf_C g13).1 (so h) (Nat.le_of_ble_eq_true rfl) (Nat.le_of_ble_eq_true rfl)
  · exact xk_r (xt_out hC hE (bk_r h) (Nat.le_of_ble_eq_true rfl) (Nat.le_of_ble_eq_true rfl))
theorem c_J1_charAt_3b067 (l : Launch) (hls : l.stackTraces = false) {S : mS} {a0 : Nat} {a1 : Int32} {o : Rs Int32} (h : f_J1_charAt_3b067 S a0 a1 = some o) : CT (fun r : Int32 => some (.int r)) l yJ1_charAt_3b067 (.code yJ1_charAt_3b067 cJ1_charAt_3b067 2 (Option.some Jvm.ClassFile.FieldType.char)) rm_J1_charAt_3b067 S [.ref a0, .int a1] o := ct_of (by decide +kernel) hls (Nat.le_of_ble_eq_true rfl) (fun C hl hC hE => t_J1_charAt_3b067 hls hC hl hE h)
abbrev rm_J2_checkIndex_2214a : Room := { frames := 9, cells := 0, slots := 0, locals := 171 }
def f_J2_checkIndex_2214a (S : mS) (a0 : Int32) (a1 : Nat) : Option (Rs Unit) :=
  bd (f_J2_length_9d52b S a1) fun x1 S2 => bd (f_J0_checkIndex_df160 S2 a0 x1) fun _ S6 => some (.inl (), S6)
set_option maxHeartbeats 2000000 in
set_option maxRecDepth 100000 in
theorem t_J2_checkIndex_2214a {l : Launch} (hls : l.stackTraces = false) {C : cT} (hC : CX C cJ2_checkIndex_2214a 2 yJ2_checkIndex_2214a rm_J2_checkIndex_2214a) (hl : C.2.1 = l) {S0 : mS} (hE : CE C S0 (Option.none : Option Jvm.ClassFile.FieldType) []) {o : Rs Unit} {S : mS} {a0 : Int32} {a1 : Nat} (h : f_J2_checkIndex_2214a S a0 a1 = some o) : XX C 2 (QQ C (fun _ : Unit => none) S0 o) 0 0 S 0 [(0, .int a0), (1, .ref a1)] [] := by
  unfold f_J2_checkIndex_2214a at h
  refine x_iload_n (pc := 0) hC 0 dJ2_checkIndex_2214a_0 rfl rfl ?_
  refine x_aload_n (pc := 1) hC 1 dJ2_checkIndex_2214a_1 rfl rfl ?_
  obtain ⟨o3, ho3, h⟩ := bd_some h
  refine x_callS (pc := 2) (As := [.ref a1]) (rest := [.int a0]) hC hl (c_J2_length_9d52b l hls ho3) lk_RJ2_48 dJ2_checkIndex_2214a_2 rfl rfl (Nat.le_of_ble_eq_true rfl) ⟨Nat.le_of_ble_eq_true rfl, Nat.le_of_ble_eq_true rfl⟩ ⟨(Nat.le_of_ble_eq_true rfl), (Nat.le_of_ble_eq_true rfl)⟩ ?_
  rcases o3 with ⟨x1 | E4, S2⟩
  · refine xk_i ?_
    replace h := bk_l h
    obtain ⟨o7, ho7, h⟩ := bd_some h
    refine x_callS (pc := 5) (As := [.int a0, .int x1]) (rest := []) hC hl (c_J0_checkIndex_df160 l hls ho7) lk_RJ2_414 dJ2_checkIndex_2214a_5 rfl rfl (Nat.le_of_ble_eq_true rfl) ⟨Nat.le_of_ble_eq_true rfl, Nat.le_of_ble_eq_true rfl⟩ ⟨(Nat.le_of_ble_eq_true rfl), (Nat.le_of_ble_eq_true rfl)⟩ ?_
    rcases o7 with ⟨_ | E8, S6⟩
    · refine xk_v ?_
      replace h := bk_l h
      exact x_vreturn (pc := 8) hC hE dJ2_checkIndex_2214a_8 (so h) (Nat.le_of_ble_eq_true rfl) (Nat.le_of_ble_eq_true rfl)
    · exact xk_r (xt_out hC hE (bk_r h) (Nat.le_of_ble_eq_true rfl) (Nat.le_of_ble_eq_true rfl))
  · exact xk_r (xt_out hC hE (bk_r h) (Nat.le_of_ble_eq_true rfl) (Nat.le_of_ble_eq_true rfl))
theorem c_J2_checkIndex_2214a (l : Launch) (hls : l.stackTraces = false) {S : mS} {a0 : Int32} {a1 : Nat} {o : Rs Unit} (h : f_J2_checkIndex_2214a S a0 a1 = some o) : CT (fun _ : Unit => none) l yJ2_checkIndex_2214a (.code yJ2_checkIndex_2214a cJ2_checkIndex_2214a 2 (Option.none : Option Jvm.ClassFile.FieldType)) rm_J2_checkIndex_2214a S [.int a0, .ref a1] o := ct_of (by decide +kernel) hls (Nat.le_of_ble_eq_true rfl) (fun C hl hC hE => t_J2_checkIndex_2214a hls hC hl hE h)
abbrev rm_J2_charAt_3b067 : Room := { frames := 10, cells := 0, slots := 0, locals := 192 }
def f_J2_charAt_3b067 (S : mS) (a0 : Nat) (a1 : Int32) : Option (Rs Int32) :=
  bd (f_J2_checkIndex_2214a S a1 a0) fun _ S2 => bd (f_J2_getChar_3b067 S2 a0 a1) fun x5 S6 => gd ((x5.toUInt32.toUInt16.toUInt32.toInt32 = x5 ∧ 0 ≤ x5) ∧ x5 ≤ 65535) (some (.inl x5, S6))
set_option maxHeartbeats 2000000 in
set_option maxRecDepth 100000 in
theorem t_J2_charAt_3b067 {l : Launch} (hls : l.stackTraces = false) {C : cT} (hC : CX C cJ2_charAt_3b067 2 yJ2_charAt_3b067 rm_J2_charAt_3b067) (hl : C.2.1 = l) {S0 : mS} (hE : CE C S0 (Option.some Jvm.ClassFile.FieldType.char) []) {o : Rs Int32} {S : mS} {a0 : Nat} {a1 : Int32} (h : f_J2_charAt_3b067 S a0 a1 = some o) : XX C 2 (QQ C (fun r : Int32 => some (.int r)) S0 o) 0 0 S 0 [(0, .ref a0), (1, .int a1)] [] := by
  unfold f_J2_charAt_3b067 at h
  refine x_iload_n (pc := 0) hC 1 dJ2_charAt_3b067_0 rfl rfl ?_
  refine x_aload_n (pc := 1) hC 0 dJ2_charAt_3b067_1 rfl rfl ?_
  obtain ⟨o3, ho3, h⟩ := bd_some h
  refine x_callS (pc := 2) (As := [.int a1, .ref a0]) (rest := []) hC hl (c_J2_checkIndex_2214a l hls ho3) lk_RJ2_67 dJ2_charAt_3b067_2 rfl rfl (Nat.le_of_ble_eq_true rfl) ⟨Nat.le_of_ble_eq_true rfl, Nat.le_of_ble_eq_true rfl⟩ ⟨(Nat.le_of_ble_eq_true rfl), (Nat.le_of_ble_eq_true rfl)⟩ ?_
  rcases o3 with ⟨_ | E4, S2⟩
  · refine xk_v ?_
    replace h := bk_l h
    refine x_aload_n (pc := 5) hC 0 dJ2_charAt_3b067_5 rfl rfl ?_
    refine x_iload_n (pc := 6) hC 1 dJ2_charAt_3b067_6 rfl rfl ?_
    obtain ⟨o7, ho7, h⟩ := bd_some h
    refine x_callS (pc := 7) (As := [.ref a0, .int a1]) (rest := []) hC hl (c_J2_getChar_3b067 l hls ho7) lk_RJ2_71 dJ2_charAt_3b067_7 rfl rfl (Nat.le_of_ble_eq_true rfl) ⟨Nat.le_of_ble_eq_true rfl, Nat.le_of_ble_eq_true rfl⟩ ⟨(Nat.le_of_ble_eq_true rfl), (Nat.le_of_ble_eq_true rfl)⟩ ?_
    rcases o7 with ⟨x5 | E8, S6⟩
    · refine xk_i ?_
      replace h := bk_l h
      obtain ⟨g9, h⟩ := gd_some h
      exact x_zreturn (pc := 10) hC hE dJ2_charAt_3b067_10 (nf_C g9).1 (so h) (Nat.le_of_ble_eq_true rfl) (Nat.le_of_ble_eq_true rfl)
    · exact xk_r (xt_out hC hE (bk_r h) (Nat.le_of_ble_eq_true rfl) (Nat.le_of_ble_eq_true rfl))
  · exact xk_r (xt_out hC hE (bk_r h) (Nat.le_of_ble_eq_true rfl) (Nat.le_of_ble_eq_true rfl))
theorem c_J2_charAt_3b067 (l : Launch) (hls : l.stackTraces = false) {S : mS} {a0 : Nat} {a1 : Int32} {o : Rs Int32} (h : f_J2_charAt_3b067 S a0 a1 = some o) : CT (fun r : Int32 => some (.int r)) l yJ2_charAt_3b067 (.code yJ2_charAt_3b067 cJ2_charAt_3b067 2 (Option.some Jvm.ClassFile.FieldType.char)) rm_J2_charAt_3b067 S [.ref a0, .int a1] o := ct_of (by decide +kernel) hls (Nat.le_of_ble_eq_true rfl) (fun C hl hC hE => t_J2_charAt_3b067 hls hC hl hE h)
abbrev rm_J0_charAt_5068e : Room := { frames := 9, cells := 0, slots := 0, locals := 170 }
def f_J0_charAt_5068e (S : mS) (a0 : Nat) (a1 : Int32) : Option (Rs Int32) :=
  gd (gK S a0 = 1) (bd (f_J0_isLatin1_aae02 S a0) fun x2 S3 => if x2 = 0 then (none) else (none))
set_option maxHeartbeats 2000000 in
set_option maxRecDepth 100000 in
theorem t_J0_charAt_5068e {l : Launch} (hls : l.stackTraces = false) {C : cT} (hC : CX C cJ0_charAt_5068e 2 yJ0_charAt_5068e rm_J0_charAt_5068e) (hl : C.2.1 = l) {S0 : mS} (hE : CE C S0 (Option.some Jvm.ClassFile.FieldType.char) []) {o : Rs Int32} {S : mS} {a0 : Nat} {a1 : Int32} (h : f_J0_charAt_5068e S a0 a1 = some o) : XX C 2 (QQ C (fun r : Int32 => some (.int r)) S0 o) 0 0 S 0 [(0, .ref a0), (1, .int a1)] [] := by
  unfold f_J0_charAt_5068e at h
  refine x_aload_n (pc := 0) hC 0 dJ0_charAt_5068e_0 rfl rfl ?_
  obtain ⟨g1, h⟩ := gd_some h
  obtain ⟨o4, ho4, h⟩ := bd_some h
  refine x_callV (pc := 1) (As := []) (rest := []) hC hl (c_J0_isLatin1_aae02 l hls ho4) lk_RJ0_492 fc_1 g1 dJ0_charAt_5068e_1 rfl rfl (Nat.le_of_ble_eq_true rfl) ⟨Nat.le_of_ble_eq_true rfl, Nat.le_of_ble_eq_true rfl⟩ ⟨(Nat.le_of_ble_eq_true rfl), (Nat.le_of_ble_eq_true rfl)⟩ ?_
  rcases o4 with ⟨x2 | E5, S3⟩
  · refine xk_i ?_
    replace h := bk_l h
    refine x_if_eq (pc := 4) hC 16 dJ0_charAt_5068e_4 (by decide) (fun c6 => ?_) (fun c6 => ?_)
    · rw [if_pos c6] at h
      refine x_aload_n (pc := 16) hC 0 dJ0_charAt_5068e_16 rfl rfl ?_
      cases h
    · rw [if_neg c6] at h
      refine x_aload_n (pc := 7) hC 0 dJ0_charAt_5068e_7 rfl rfl ?_
      cases h
  · exact xk_r (xt_out hC hE (bk_r h) (Nat.le_of_ble_eq_true rfl) (Nat.le_of_ble_eq_true rfl))
theorem c_J0_charAt_5068e (l : Launch) (hls : l.stackTraces = false) {S : mS} {a0 : Nat} {a1 : Int32} {o : Rs Int32} (h : f_J0_charAt_5068e S a0 a1 = some o) : CT (fun r : Int32 => some (.int r)) l yJ0_charAt_5068e (.code yJ0_charAt_5068e cJ0_charAt_5068e 2 (Option.some Jvm.ClassFile.FieldType.char)) rm_J0_charAt_5068e S [.ref a0, .int a1] o := ct_of (by decide +kernel) hls (Nat.le_of_ble_eq_true rfl) (fun C hl hC hE => t_J0_charAt_5068e hls hC hl hE h)
abbrev rm_J0_isEmpty_aae02 : Room := { frames := 8, cells := 0, slots := 0, locals := 150 }
def f_J0_isEmpty_aae02 (S : mS) (a0 : Nat) : Option (Rs Int32) :=
  none
set_option maxHeartbeats 2000000 in
set_option maxRecDepth 100000 in
theorem t_J0_isEmpty_aae02 {l : Launch} (hls : l.stackTraces = false) {C : cT} (hC : CX C cJ0_isEmpty_aae02 1 yJ0_isEmpty_aae02 rm_J0_isEmpty_aae02) (hl : C.2.1 = l) {S0 : mS} (hE : CE C S0 (Option.some Jvm.ClassFile.FieldType.boolean) []) {o : Rs Int32} {S : mS} {a0 : Nat} (h : f_J0_isEmpty_aae02 S a0 = some o) : XX C 1 (QQ C (fun r : Int32 => some (.int r)) S0 o) 0 0 S 0 [(0, .ref a0)] [] := by
  unfold f_J0_isEmpty_aae02 at h
  refine x_aload_n (pc := 0) hC 0 dJ0_isEmpty_aae02_0 rfl rfl ?_
  cases h
theorem c_J0_isEmpty_aae02 (l : Launch) (hls : l.stackTraces = false) {S : mS} {a0 : Nat} {o : Rs Int32} (h : f_J0_isEmpty_aae02 S a0 = some o) : CT (fun r : Int32 => some (.int r)) l yJ0_isEmpty_aae02 (.code yJ0_isEmpty_aae02 cJ0_isEmpty_aae02 1 (Option.some Jvm.ClassFile.FieldType.boolean)) rm_J0_isEmpty_aae02 S [.ref a0] o := ct_of (by decide +kernel) hls (Nat.le_of_ble_eq_true rfl) (fun C hl hC hE => t_J0_isEmpty_aae02 hls hC hl hE h)
abbrev rm_J5_length_8abf5 : Room := { frames := 8, cells := 0, slots := 0, locals := 150 }
def f_J5_length_8abf5 (S : mS) (a0 : Nat) : Option (Rs Int32) :=
  gd (gK S a0 = 2) (lt9 (gI S a0 3) fun x2 => some (.inl x2, S))
set_option maxHeartbeats 2000000 in
set_option maxRecDepth 100000 in
theorem t_J5_length_8abf5 {l : Launch} (hls : l.stackTraces = false) {C : cT} (hC : CX C cJ5_length_8abf5 1 yJ5_length_8abf5 rm_J5_length_8abf5) (hl : C.2.1 = l) {S0 : mS} (hE : CE C S0 (Option.some Jvm.ClassFile.FieldType.int) []) {o : Rs Int32} {S : mS} {a0 : Nat} (h : f_J5_length_8abf5 S a0 = some o) : XX C 1 (QQ C (fun r : Int32 => some (.int r)) S0 o) 0 0 S 0 [(0, .ref a0)] [] := by
  unfold f_J5_length_8abf5 at h
  refine x_aload_n (pc := 0) hC 0 dJ5_length_8abf5_0 rfl rfl ?_
  obtain ⟨g1, h⟩ := gd_some h
  refine x_getIv (pc := 1) (k := 3) hC fc_2 fl_RJ5_79 dJ5_length_8abf5_1 rfl g1 (fun x2 hx2 => ?_)
  replace h := lt_x hx2 h
  exact x_ireturn (pc := 4) hC hE dJ5_length_8abf5_4 (so h) (Nat.le_of_ble_eq_true rfl) (Nat.le_of_ble_eq_true rfl)
theorem c_J5_length_8abf5 (l : Launch) (hls : l.stackTraces = false) {S : mS} {a0 : Nat} {o : Rs Int32} (h : f_J5_length_8abf5 S a0 = some o) : CT (fun r : Int32 => some (.int r)) l yJ5_length_8abf5 (.code yJ5_length_8abf5 cJ5_length_8abf5 1 (Option.some Jvm.ClassFile.FieldType.int)) rm_J5_length_8abf5 S [.ref a0] o := ct_of (by decide +kernel) hls (Nat.le_of_ble_eq_true rfl) (fun C hl hC hE => t_J5_length_8abf5 hls hC hl hE h)
abbrev rm_J7_copyOf_9075b : Room := { frames := 9, cells := 0, slots := 0, locals := 171 }
def f_J7_copyOf_9075b (S : mS) (a0 : Nat) (a1 : Int32) : Option (Rs Nat) :=
  gd (gK S a0 = 33) (lt9 (Int32.ofNat (gZ S a0)) fun x2 => if a1 = x2 then (none) else (none))
set_option maxHeartbeats 2000000 in
set_option maxRecDepth 100000 in
theorem t_J7_copyOf_9075b {l : Launch} (hls : l.stackTraces = false) {C : cT} (hC : CX C cJ7_copyOf_9075b 3 yJ7_copyOf_9075b rm_J7_copyOf_9075b) (hl : C.2.1 = l) {S0 : mS} (hE : CE C S0 (Option.some (Jvm.ClassFile.FieldType.array Jvm.ClassFile.FieldType.byte)) []) {o : Rs Nat} {S : mS} {a0 : Nat} {a1 : Int32} (h : f_J7_copyOf_9075b S a0 a1 = some o) : XX C 3 (QQ C (fun r : Nat => some (.ref r)) S0 o) 0 0 S 0 [(0, .ref a0), (1, .int a1)] [] := by
  unfold f_J7_copyOf_9075b at h
  refine x_iload_n (pc := 0) hC 1 dJ7_copyOf_9075b_0 rfl rfl ?_
  refine x_aload_n (pc := 1) hC 0 dJ7_copyOf_9075b_1 rfl rfl ?_
  obtain ⟨g1, h⟩ := gd_some h
  refine x_alenv (pc := 2) (t0 := 3) hC dJ7_copyOf_9075b_2 g1 (by decide) (fun _ => rfl) (fun x2 hx2 => ?_)
  replace h := lt_x hx2 h
  refine x_icmp_ne (pc := 3) hC 14 dJ7_copyOf_9075b_3 (by decide) (fun c6 => ?_) (fun c6 => ?_)
  · rw [if_neg c6] at h
    refine x_iload_n (pc := 14) hC 1 dJ7_copyOf_9075b_14 rfl rfl ?_
    cases h
  · rw [if_pos c6] at h
    refine x_aload_n (pc := 6) hC 0 dJ7_copyOf_9075b_6 rfl rfl ?_
    cases h
theorem c_J7_copyOf_9075b (l : Launch) (hls : l.stackTraces = false) {S : mS} {a0 : Nat} {a1 : Int32} {o : Rs Nat} (h : f_J7_copyOf_9075b S a0 a1 = some o) : CT (fun r : Nat => some (.ref r)) l yJ7_copyOf_9075b (.code yJ7_copyOf_9075b cJ7_copyOf_9075b 3 (Option.some (Jvm.ClassFile.FieldType.array Jvm.ClassFile.FieldType.byte))) rm_J7_copyOf_9075b S [.ref a0, .int a1] o := ct_of (by decide +kernel) hls (Nat.le_of_ble_eq_true rfl) (fun C hl hC hE => t_J7_copyOf_9075b hls hC hl hE h)
abbrev rm_J5_ensureCapacityInternal_d00df : Room := { frames := 8, cells := 0, slots := 0, locals := 150 }
def f_J5_ensureCapacityInternal_d00df_38  (S : mS) : Option (Rs Unit) :=
  some (.inl (), S)
set_option maxHeartbeats 2000000 in
set_option maxRecDepth 100000 in
theorem t_J5_ensureCapacityInternal_d00df_38 {l : Launch} (hls : l.stackTraces = false) {C : cT} (hC : CX C cJ5_ensureCapacityInternal_d00df 3 yJ5_ensureCapacityInternal_d00df rm_J5_ensureCapacityInternal_d00df) (hl : C.2.1 = l) {S0 : mS} (hE : CE C S0 (Option.none : Option Jvm.ClassFile.FieldType) []) {o : Rs Unit} {S : mS} (h : f_J5_ensureCapacityInternal_d00df_38  S = some o) : XX C 3 (QQ C (fun _ : Unit => none) S0 o) (0) (0) S 38 [] [] := by
  unfold f_J5_ensureCapacityInternal_d00df_38 at h
  exact x_vreturn (pc := 38) hC hE dJ5_ensureCapacityInternal_d00df_38 (so h) (Nat.le_of_ble_eq_true rfl) (Nat.le_of_ble_eq_true rfl)
def f_J5_ensureCapacityInternal_d00df (S : mS) (a0 : Nat) (a1 : Int32) : Option (Rs Unit) :=
  gd (gK S a0 = 2) (lt9 (gR S a0 0) fun r2 => gd (gK S r2 = 33) (lt9 (Int32.ofNat (gZ S r2)) fun x4 => lt9 (gI S a0 1) fun x5 => lt9 (x4 >>> (x5 &&& 31)) fun x6 => lt9 (a1 - x6) fun x7 => if x7 ≤ 0 then (f_J5_ensureCapacityInternal_d00df_38  S) else (lt9 (gR S a0 0) fun r8 => none)))
set_option maxHeartbeats 2000000 in
set_option maxRecDepth 100000 in
theorem t_J5_ensureCapacityInternal_d00df {l : Launch} (hls : l.stackTraces = false) {C : cT} (hC : CX C cJ5_ensureCapacityInternal_d00df 3 yJ5_ensureCapacityInternal_d00df rm_J5_ensureCapacityInternal_d00df) (hl : C.2.1 = l) {S0 : mS} (hE : CE C S0 (Option.none : Option Jvm.ClassFile.FieldType) []) {o : Rs Unit} {S : mS} {a0 : Nat} {a1 : Int32} (h : f_J5_ensureCapacityInternal_d00df S a0 a1 = some o) : XX C 3 (QQ C (fun _ : Unit => none) S0 o) 0 0 S 0 [(0, .ref a0), (1, .int a1)] [] := by
  unfold f_J5_ensureCapacityInternal_d00df at h
  refine x_aload_n (pc := 0) hC 0 dJ5_ensureCapacityInternal_d00df_0 rfl rfl ?_
  obtain ⟨g1, h⟩ := gd_some h
  refine x_getRv (pc := 1) (k := 0) hC fc_2 fl_RJ5_15 dJ5_ensureCapacityInternal_d00df_1 rfl g1 (fun r2 hr2 => ?_)
  replace h := lt_x hr2 h
  obtain ⟨g3, h⟩ := gd_some h
  refine x_alenv (pc := 4) (t0 := 3) hC dJ5_ensureCapacityInternal_d00df_4 g3 (by decide) (fun _ => rfl) (fun x4 hx4 => ?_)
  replace h := lt_x hx4 h
  refine x_aload_n (pc := 5) hC 0 dJ5_ensureCapacityInternal_d00df_5 rfl rfl ?_
  refine x_getIv (pc := 6) (k := 1) hC fc_2 fl_RJ5_22 dJ5_ensureCapacityInternal_d00df_6 rfl g1 (fun x5 hx5 => ?_)
  replace h := lt_x hx5 h
  refine x_ishrv (pc := 9) hC dJ5_ensureCapacityInternal_d00df_9 (fun x6 hx6 => ?_)
  replace h := lt_x hx6 h
  refine x_istore_n (pc := 10) hC dJ5_ensureCapacityInternal_d00df_10 rfl (by decide) (by decide) rfl ?_
  refine x_iload_n (pc := 11) hC 2 dJ5_ensureCapacityInternal_d00df_11 rfl rfl ?_
  refine x_iload_n (pc := 12) hC 0 dJ5_ensureCapacityInternal_d00df_12 rfl rfl ?_
  refine x_isubv (pc := 13) hC dJ5_ensureCapacityInternal_d00df_13 (fun x7 hx7 => ?_)
  replace h := lt_x hx7 h
  refine x_if_le (pc := 14) hC 38 dJ5_ensureCapacityInternal_d00df_14 (by decide) (fun c9 => ?_) (fun c9 => ?_)
  · rw [if_pos c9] at h
    refine x_pick [] rfl ?_
    exact t_J5_ensureCapacityInternal_d00df_38 hls hC hl hE h
  · rw [if_neg c9] at h
    refine x_aload_n (pc := 17) hC 1 dJ5_ensureCapacityInternal_d00df_17 rfl rfl ?_
    refine x_aload_n (pc := 18) hC 1 dJ5_ensureCapacityInternal_d00df_18 rfl rfl ?_
    refine x_getRv (pc := 19) (k := 0) hC fc_2 fl_RJ5_15 dJ5_ensureCapacityInternal_d00df_19 rfl g1 (fun r8 hr8 => ?_)
    replace h := lt_x hr8 h
    refine x_aload_n (pc := 22) hC 1 dJ5_ensureCapacityInternal_d00df_22 rfl rfl ?_
    refine x_iload_n (pc := 23) hC 2 dJ5_ensureCapacityInternal_d00df_23 rfl rfl ?_
    cases h
theorem c_J5_ensureCapacityInternal_d00df (l : Launch) (hls : l.stackTraces = false) {S : mS} {a0 : Nat} {a1 : Int32} {o : Rs Unit} (h : f_J5_ensureCapacityInternal_d00df S a0 a1 = some o) : CT (fun _ : Unit => none) l yJ5_ensureCapacityInternal_d00df (.code yJ5_ensureCapacityInternal_d00df cJ5_ensureCapacityInternal_d00df 3 (Option.none : Option Jvm.ClassFile.FieldType)) rm_J5_ensureCapacityInternal_d00df S [.ref a0, .int a1] o := ct_of (by decide +kernel) hls (Nat.le_of_ble_eq_true rfl) (fun C hl hC hE => t_J5_ensureCapacityInternal_d00df hls hC hl hE h)
abbrev rm_J5_newCapacity_0f7a4 : Room := { frames := 10, cells := 0, slots := 0, locals := 195 }
def f_J5_newCapacity_0f7a4 (S : mS) (a0 : Nat) (a1 : Int32) : Option (Rs Int32) :=
  gd (gK S a0 = 2) (lt9 (gR S a0 0) fun r2 => gd (gK S r2 = 33) (lt9 (Int32.ofNat (gZ S r2)) fun x4 => lt9 (gI S a0 1) fun x5 => lt9 (a1 <<< (x5 &&& 31)) fun x6 => lt9 (x6 - x4) fun x7 => lt9 (gI S a0 1) fun x8 => lt9 ((2 : Int32) <<< (x8 &&& 31)) fun x9 => lt9 (x4 + x9) fun x10 => bd (f_J8_newLength_cabcc S x4 x7 x10) fun x11 S12 => if x11 = (2147483647 : Int32) then (none) else (gd (gK S12 a0 = 2) (lt9 (gI S12 a0 1) fun x16 => lt9 (x11 >>> (x16 &&& 31)) fun x17 => some (.inl x17, S12)))))
set_option maxHeartbeats 2000000 in
set_option maxRecDepth 100000 in
theorem t_J5_newCapacity_0f7a4 {l : Launch} (hls : l.stackTraces = false) {C : cT} (hC : CX C cJ5_newCapacity_0f7a4 6 yJ5_newCapacity_0f7a4 rm_J5_newCapacity_0f7a4) (hl : C.2.1 = l) {S0 : mS} (hE : CE C S0 (Option.some Jvm.ClassFile.FieldType.int) []) {o : Rs Int32} {S : mS} {a0 : Nat} {a1 : Int32} (h : f_J5_newCapacity_0f7a4 S a0 a1 = some o) : XX C 6 (QQ C (fun r : Int32 => some (.int r)) S0 o) 0 0 S 0 [(0, .ref a0), (1, .int a1)] [] := by
  unfold f_J5_newCapacity_0f7a4 at h
  refine x_aload_n (pc := 0) hC 0 dJ5_newCapacity_0f7a4_0 rfl rfl ?_
  obtain ⟨g1, h⟩ := gd_some h
  refine x_getRv (pc := 1) (k := 0) hC fc_2 fl_RJ5_15 dJ5_newCapacity_0f7a4_1 rfl g1 (fun r2 hr2 => ?_)
  replace h := lt_x hr2 h
  obtain ⟨g3, h⟩ := gd_some h
  refine x_alenv (pc := 4) (t0 := 3) hC dJ5_newCapacity_0f7a4_4 g3 (by decide) (fun _ => rfl) (fun x4 hx4 => ?_)
  replace h := lt_x hx4 h
  refine x_istore_n (pc := 5) hC dJ5_newCapacity_0f7a4_5 rfl (by decide) (by decide) rfl ?_
  refine x_iload_n (pc := 6) hC 2 dJ5_newCapacity_0f7a4_6 rfl rfl ?_
  refine x_aload_n (pc := 7) hC 1 dJ5_newCapacity_0f7a4_7 rfl rfl ?_
  refine x_getIv (pc := 8) (k := 1) hC fc_2 fl_RJ5_22 dJ5_newCapacity_0f7a4_8 rfl g1 (fun x5 hx5 => ?_)
  replace h := lt_x hx5 h
  refine x_ishlv (pc := 11) hC dJ5_newCapacity_0f7a4_11 (fun x6 hx6 => ?_)
  replace h := lt_x hx6 h
  refine x_istore_n (pc := 12) hC dJ5_newCapacity_0f7a4_12 rfl (by decide) (by decide) rfl ?_
  refine x_iload_n (pc := 13) hC 0 dJ5_newCapacity_0f7a4_13 rfl rfl ?_
  refine x_iload_n (pc := 14) hC 1 dJ5_newCapacity_0f7a4_14 rfl rfl ?_
  refine x_isubv (pc := 15) hC dJ5_newCapacity_0f7a4_15 (fun x7 hx7 => ?_)
  replace h := lt_x hx7 h
  refine x_istore (pc := 16) hC dJ5_newCapacity_0f7a4_16 (by decide) (by decide) rfl ?_
  refine x_iload_n (pc := 18) hC 2 dJ5_newCapacity_0f7a4_18 rfl rfl ?_
  refine x_iload (pc := 19) hC 0 dJ5_newCapacity_0f7a4_19 rfl ?_
  refine x_iload_n (pc := 21) hC 2 dJ5_newCapacity_0f7a4_21 rfl rfl ?_
  refine x_iconst (pc := 22) (v := (2 : Int32)) hC dJ5_newCapacity_0f7a4_22 (by decide) ?_
  refine x_aload_n (pc := 23) hC 3 dJ5_newCapacity_0f7a4_23 rfl rfl ?_
  refine x_getIv (pc := 24) (k := 1) hC fc_2 fl_RJ5_22 dJ5_newCapacity_0f7a4_24 rfl g1 (fun x8 hx8 => ?_)
  replace h := lt_x hx8 h
  refine x_ishlv (pc := 27) hC dJ5_newCapacity_0f7a4_27 (fun x9 hx9 => ?_)
  replace h := lt_x hx9 h
  refine x_iaddv (pc := 28) hC dJ5_newCapacity_0f7a4_28 (fun x10 hx10 => ?_)
  replace h := lt_x hx10 h
  obtain ⟨o13, ho13, h⟩ := bd_some h
  refine x_callS (pc := 29) (As := [.int x4, .int x7, .int x10]) (rest := []) hC hl (c_J8_newLength_cabcc l hls ho13) lk_RJ5_114 dJ5_newCapacity_0f7a4_29 rfl rfl (Nat.le_of_ble_eq_true rfl) ⟨Nat.le_of_ble_eq_true rfl, Nat.le_of_ble_eq_true rfl⟩ ⟨(Nat.le_of_ble_eq_true rfl), (Nat.le_of_ble_eq_true rfl)⟩ ?_
  rcases o13 with ⟨x11 | E14, S12⟩
  · refine xk_i ?_
    replace h := bk_l h
    refine x_istore (pc := 32) hC dJ5_newCapacity_0f7a4_32 (by decide) (by decide) rfl ?_
    refine x_iload (pc := 34) hC 0 dJ5_newCapacity_0f7a4_34 rfl ?_
    refine x_ldc (pc := 36) hC wm_2400 dJ5_newCapacity_0f7a4_36 ?_
    refine x_icmp_ne (pc := 38) hC 51 dJ5_newCapacity_0f7a4_38 (by decide) (fun c18 => ?_) (fun c18 => ?_)
    · rw [if_neg c18] at h
      refine x_iload (pc := 51) hC 0 dJ5_newCapacity_0f7a4_51 rfl ?_
      refine x_aload_n (pc := 53) hC 4 dJ5_newCapacity_0f7a4_53 rfl rfl ?_
      obtain ⟨g15, h⟩ := gd_some h
      refine x_getIv (pc := 54) (k := 1) hC fc_2 fl_RJ5_22 dJ5_newCapacity_0f7a4_54 rfl g15 (fun x16 hx16 => ?_)
      replace h := lt_x hx16 h
      refine x_ishrv (pc := 57) hC dJ5_newCapacity_0f7a4_57 (fun x17 hx17 => ?_)
      replace h := lt_x hx17 h
      exact x_ireturn (pc := 58) hC hE dJ5_newCapacity_0f7a4_58 (so h) (Nat.le_of_ble_eq_true rfl) (Nat.le_of_ble_eq_true rfl)
    · rw [if_pos c18] at h
      cases h
  · exact xk_r (xt_out hC hE (bk_r h) (Nat.le_of_ble_eq_true rfl) (Nat.le_of_ble_eq_true rfl))
theorem c_J5_newCapacity_0f7a4 (l : Launch) (hls : l.stackTraces = false) {S : mS} {a0 : Nat} {a1 : Int32} {o : Rs Int32} (h : f_J5_newCapacity_0f7a4 S a0 a1 = some o) : CT (fun r : Int32 => some (.int r)) l yJ5_newCapacity_0f7a4 (.code yJ5_newCapacity_0f7a4 cJ5_newCapacity_0f7a4 6 (Option.some Jvm.ClassFile.FieldType.int)) rm_J5_newCapacity_0f7a4 S [.ref a0, .int a1] o := ct_of (by decide +kernel) hls (Nat.le_of_ble_eq_true rfl) (fun C hl hC hE => t_J5_newCapacity_0f7a4 hls hC hl hE h)
abbrev rm_J2_putChar_b72d1 : Room := { frames := 8, cells := 0, slots := 0, locals := 150 }
def f_J2_putChar_b72d1 (S : mS) (a0 : Nat) (a1 : Int32) (a2 : Int32) : Option (Rs Unit) :=
  none
set_option maxHeartbeats 2000000 in
set_option maxRecDepth 100000 in
theorem t_J2_putChar_b72d1 {l : Launch} (hls : l.stackTraces = false) {C : cT} (hC : CX C cJ2_putChar_b72d1 3 yJ2_putChar_b72d1 rm_J2_putChar_b72d1) (hl : C.2.1 = l) {S0 : mS} (hE : CE C S0 (Option.none : Option Jvm.ClassFile.FieldType) []) {o : Rs Unit} {S : mS} {a0 : Nat} {a1 : Int32} {a2 : Int32} (h : f_J2_putChar_b72d1 S a0 a1 a2 = some o) : XX C 3 (QQ C (fun _ : Unit => none) S0 o) 0 0 S 0 [(0, .ref a0), (1, .int a1), (2, .int a2)] [] := by
  unfold f_J2_putChar_b72d1 at h
  cases h
theorem c_J2_putChar_b72d1 (l : Launch) (hls : l.stackTraces = false) {S : mS} {a0 : Nat} {a1 : Int32} {a2 : Int32} {o : Rs Unit} (h : f_J2_putChar_b72d1 S a0 a1 a2 = some o) : CT (fun _ : Unit => none) l yJ2_putChar_b72d1 (.code yJ2_putChar_b72d1 cJ2_putChar_b72d1 3 (Option.none : Option Jvm.ClassFile.FieldType)) rm_J2_putChar_b72d1 S [.ref a0, .int a1, .int a2] o := ct_of (by decide +kernel) hls (Nat.le_of_ble_eq_true rfl) (fun C hl hC hE => t_J2_putChar_b72d1 hls hC hl hE h)
abbrev rm_J2_inflate_0e8fd : Room := { frames := 10, cells := 0, slots := 0, locals := 194 }
def f_J2_inflate_0e8fd_10  : Nat → mS → Nat → Int32 → Nat → Int32 → Int32 → Int32 → Option (Rs Unit)
  | 0, _, _, _, _, _, _, _ => none
  | k + 1, S, a0, a1, a2, a3, a4, a5 => if a4 ≤ a5 then (some (.inl (), S)) else (lt9 (a3 + Int32.ofInt (1)) fun x1 => lt9 (a1 + Int32.ofInt (1)) fun x2 => gd (gK S a0 = 33) (gd (¬ (a1 < 0 ∨ gZ S a0 ≤ (a1).toNatClampNeg)) (lt9 (gI S a0 (a1).toNatClampNeg) fun x6 => lt9 (x6 &&& (255 : Int32)) fun x7 => bd (f_J2_putChar_b72d1 S a2 a3 x7) fun _ S9 => lt9 (a5 + Int32.ofInt (1)) fun x12 => f_J2_inflate_0e8fd_10 k S9 a0 x2 a2 x1 a4 x12)))
set_option maxHeartbeats 2000000 in
set_option maxRecDepth 100000 in
theorem t_J2_inflate_0e8fd_10 {l : Launch} (hls : l.stackTraces = false) {C : cT} (hC : CX C cJ2_inflate_0e8fd 6 yJ2_inflate_0e8fd rm_J2_inflate_0e8fd) (hl : C.2.1 = l) {S0 : mS} (hE : CE C S0 (Option.none : Option Jvm.ClassFile.FieldType) []) {o : Rs Unit} : ∀ (k : Nat) (S : mS) (a0 : Nat) (a1 : Int32) (a2 : Nat) (a3 : Int32) (a4 : Int32) (a5 : Int32), f_J2_inflate_0e8fd_10  k S a0 a1 a2 a3 a4 a5 = some o → XX C 6 (QQ C (fun _ : Unit => none) S0 o) (0) (0) S 10 [(0, .ref a0), (1, .int a1), (2, .ref a2), (3, .int a3), (4, .int a4), (5, .int a5)] [] := by
  intro k
  induction k with
  | zero => intro S a0 a1 a2 a3 a4 a5 h; cases h
  | succ k ih =>
    intro S a0 a1 a2 a3 a4 a5 h
    unfold f_J2_inflate_0e8fd_10 at h
    refine x_iload (pc := 10) hC 5 dJ2_inflate_0e8fd_10 rfl ?_
    refine x_iload (pc := 12) hC 4 dJ2_inflate_0e8fd_12 rfl ?_
    refine x_icmp_ge (pc := 14) hC 41 dJ2_inflate_0e8fd_14 (by decide) (fun c13 => ?_) (fun c13 => ?_)
    · rw [if_pos c13] at h
      exact x_vreturn (pc := 41) hC hE dJ2_inflate_0e8fd_41 (so h) (Nat.le_of_ble_eq_true rfl) (Nat.le_of_ble_eq_true rfl)
    · rw [if_neg c13] at h
      refine x_aload_n (pc := 17) hC 2 dJ2_inflate_0e8fd_17 rfl rfl ?_
      refine x_iload_n (pc := 18) hC 3 dJ2_inflate_0e8fd_18 rfl rfl ?_
      obtain ⟨x1, hx1⟩ : ∃ z, z = (a3 + Int32.ofInt (1)) := ⟨_, rfl⟩
      replace h := lt_x hx1 h
      refine x_iinc (pc := 19) hC 3 dJ2_inflate_0e8fd_19 rfl hx1.symm (by decide) (by decide) rfl ?_
      refine x_aload_n (pc := 22) hC 1 dJ2_inflate_0e8fd_22 rfl rfl ?_
      refine x_iload_n (pc := 23) hC 2 dJ2_inflate_0e8fd_23 rfl rfl ?_
      obtain ⟨x2, hx2⟩ : ∃ z, z = (a1 + Int32.ofInt (1)) := ⟨_, rfl⟩
      replace h := lt_x hx2 h
      refine x_iinc (pc := 24) hC 2 dJ2_inflate_0e8fd_24 rfl hx2.symm (by decide) (by decide) rfl ?_
      obtain ⟨g5, h⟩ := gd_some h
      obtain ⟨g4, h⟩ := gd_some h
      refine x_yaldv (pc := 27) hC dJ2_inflate_0e8fd_27 g5 g4 (fun x6 hx6 => ?_)
      replace h := lt_x hx6 h
      refine x_sipush (pc := 28) (v := (255 : Int32)) hC dJ2_inflate_0e8fd_28 (by decide) ?_
      refine x_iandv (pc := 31) hC dJ2_inflate_0e8fd_31 (fun x7 hx7 => ?_)
      replace h := lt_x hx7 h
      obtain ⟨o10, ho10, h⟩ := bd_some h
      refine x_callS (pc := 32) (As := [.ref a2, .int a3, .int x7]) (rest := []) hC hl (c_J2_putChar_b72d1 l hls ho10) lk_RJ2_111 dJ2_inflate_0e8fd_32 rfl rfl (Nat.le_of_ble_eq_true rfl) ⟨Nat.le_of_ble_eq_true rfl, Nat.le_of_ble_eq_true rfl⟩ ⟨(Nat.le_of_ble_eq_true rfl), (Nat.le_of_ble_eq_true rfl)⟩ ?_
      rcases o10 with ⟨_ | E11, S9⟩
      · refine xk_v ?_
        replace h := bk_l h
        obtain ⟨x12, hx12⟩ : ∃ z, z = (a5 + Int32.ofInt (1)) := ⟨_, rfl⟩
        replace h := lt_x hx12 h
        refine x_iinc (pc := 35) hC 5 dJ2_inflate_0e8fd_35 rfl hx12.symm (by decide) (by decide) rfl ?_
        refine x_goto (pc := 38) hC 10 dJ2_inflate_0e8fd_38 (by decide) ?_
        refine x_pick [3, 1, 4, 2, 5, 0] rfl ?_
        exact ih _ _ _ _ _ _ _ h
      · exact xk_r (xt_out hC hE (bk_r h) (Nat.le_of_ble_eq_true rfl) (Nat.le_of_ble_eq_true rfl))
def f_J2_inflate_0e8fd (S : mS) (a0 : Nat) (a1 : Int32) (a2 : Nat) (a3 : Int32) (a4 : Int32) : Option (Rs Unit) :=
  bd (f_J2_checkBoundsOffCount_d044e S a3 a4 a2) fun _ S2 => f_J2_inflate_0e8fd_10  16 S2 a0 a1 a2 a3 a4 (0 : Int32)
set_option maxHeartbeats 2000000 in
set_option maxRecDepth 100000 in
theorem t_J2_inflate_0e8fd {l : Launch} (hls : l.stackTraces = false) {C : cT} (hC : CX C cJ2_inflate_0e8fd 6 yJ2_inflate_0e8fd rm_J2_inflate_0e8fd) (hl : C.2.1 = l) {S0 : mS} (hE : CE C S0 (Option.none : Option Jvm.ClassFile.FieldType) []) {o : Rs Unit} {S : mS} {a0 : Nat} {a1 : Int32} {a2 : Nat} {a3 : Int32} {a4 : Int32} (h : f_J2_inflate_0e8fd S a0 a1 a2 a3 a4 = some o) : XX C 6 (QQ C (fun _ : Unit => none) S0 o) 0 0 S 0 [(0, .ref a0), (1, .int a1), (2, .ref a2), (3, .int a3), (4, .int a4)] [] := by
  unfold f_J2_inflate_0e8fd at h
  refine x_iload_n (pc := 0) hC 3 dJ2_inflate_0e8fd_0 rfl rfl ?_
  refine x_iload (pc := 1) hC 4 dJ2_inflate_0e8fd_1 rfl ?_
  refine x_aload_n (pc := 3) hC 2 dJ2_inflate_0e8fd_3 rfl rfl ?_
  obtain ⟨o3, ho3, h⟩ := bd_some h
  refine x_callS (pc := 4) (As := [.int a3, .int a4, .ref a2]) (rest := []) hC hl (c_J2_checkBoundsOffCount_d044e l hls ho3) lk_RJ2_173 dJ2_inflate_0e8fd_4 rfl rfl (Nat.le_of_ble_eq_true rfl) ⟨Nat.le_of_ble_eq_true rfl, Nat.le_of_ble_eq_true rfl⟩ ⟨(Nat.le_of_ble_eq_true rfl), (Nat.le_of_ble_eq_true rfl)⟩ ?_
  rcases o3 with ⟨_ | E4, S2⟩
  · refine xk_v ?_
    replace h := bk_l h
    refine x_iconst (pc := 7) (v := (0 : Int32)) hC dJ2_inflate_0e8fd_7 (by decide) ?_
    refine x_istore (pc := 8) hC dJ2_inflate_0e8fd_8 (by decide) (by decide) rfl ?_
    refine x_pick [1, 2, 3, 4, 5, 0] rfl ?_
    exact t_J2_inflate_0e8fd_10 hls hC hl hE 16 _ _ _ _ _ _ _ h
  · exact xk_r (xt_out hC hE (bk_r h) (Nat.le_of_ble_eq_true rfl) (Nat.le_of_ble_eq_true rfl))
theorem c_J2_inflate_0e8fd (l : Launch) (hls : l.stackTraces = false) {S : mS} {a0 : Nat} {a1 : Int32} {a2 : Nat} {a3 : Int32} {a4 : Int32} {o : Rs Unit} (h : f_J2_inflate_0e8fd S a0 a1 a2 a3 a4 = some o) : CT (fun _ : Unit => none) l yJ2_inflate_0e8fd (.code yJ2_inflate_0e8fd cJ2_inflate_0e8fd 6 (Option.none : Option Jvm.ClassFile.FieldType)) rm_J2_inflate_0e8fd S [.ref a0, .int a1, .ref a2, .int a3, .int a4] o := ct_of (by decide +kernel) hls (Nat.le_of_ble_eq_true rfl) (fun C hl hC hE => t_J2_inflate_0e8fd hls hC hl hE h)
abbrev rm_J1_inflate_0e8fd : Room := { frames := 11, cells := 0, slots := 0, locals := 219 }
def f_J1_inflate_0e8fd (S : mS) (a0 : Nat) (a1 : Int32) (a2 : Nat) (a3 : Int32) (a4 : Int32) : Option (Rs Unit) :=
  bd (f_J2_inflate_0e8fd S a0 a1 a2 a3 a4) fun _ S2 => some (.inl (), S2)
set_option maxHeartbeats 2000000 in
set_option maxRecDepth 100000 in
theorem t_J1_inflate_0e8fd {l : Launch} (hls : l.stackTraces = false) {C : cT} (hC : CX C cJ1_inflate_0e8fd 5 yJ1_inflate_0e8fd rm_J1_inflate_0e8fd) (hl : C.2.1 = l) {S0 : mS} (hE : CE C S0 (Option.none : Option Jvm.ClassFile.FieldType) []) {o : Rs Unit} {S : mS} {a0 : Nat} {a1 : Int32} {a2 : Nat} {a3 : Int32} {a4 : Int32} (h : f_J1_inflate_0e8fd S a0 a1 a2 a3 a4 = some o) : XX C 5 (QQ C (fun _ : Unit => none) S0 o) 0 0 S 0 [(0, .ref a0), (1, .int a1), (2, .ref a2), (3, .int a3), (4, .int a4)] [] := by
  unfold f_J1_inflate_0e8fd at h
  refine x_aload_n (pc := 0) hC 0 dJ1_inflate_0e8fd_0 rfl rfl ?_
  refine x_iload_n (pc := 1) hC 1 dJ1_inflate_0e8fd_1 rfl rfl ?_
  refine x_aload_n (pc := 2) hC 2 dJ1_inflate_0e8fd_2 rfl rfl ?_
  refine x_iload_n (pc := 3) hC 3 dJ1_inflate_0e8fd_3 rfl rfl ?_
  refine x_iload (pc := 4) hC 4 dJ1_inflate_0e8fd_4 rfl ?_
  obtain ⟨o3, ho3, h⟩ := bd_some h
  refine x_callS (pc := 6) (As := [.ref a0, .int a1, .ref a2, .int a3, .int a4]) (rest := []) hC hl (c_J2_inflate_0e8fd l hls ho3) lk_RJ1_240 dJ1_inflate_0e8fd_6 rfl rfl (Nat.le_of_ble_eq_true rfl) ⟨Nat.le_of_ble_eq_true rfl, Nat.le_of_ble_eq_true rfl⟩ ⟨(Nat.le_of_ble_eq_true rfl), (Nat.le_of_ble_eq_true rfl)⟩ ?_
  rcases o3 with ⟨_ | E4, S2⟩
  · refine xk_v ?_
    replace h := bk_l h
    exact x_vreturn (pc := 9) hC hE dJ1_inflate_0e8fd_9 (so h) (Nat.le_of_ble_eq_true rfl) (Nat.le_of_ble_eq_true rfl)
  · exact xk_r (xt_out hC hE (bk_r h) (Nat.le_of_ble_eq_true rfl) (Nat.le_of_ble_eq_true rfl))
theorem c_J1_inflate_0e8fd (l : Launch) (hls : l.stackTraces = false) {S : mS} {a0 : Nat} {a1 : Int32} {a2 : Nat} {a3 : Int32} {a4 : Int32} {o : Rs Unit} (h : f_J1_inflate_0e8fd S a0 a1 a2 a3 a4 = some o) : CT (fun _ : Unit => none) l yJ1_inflate_0e8fd (.code yJ1_inflate_0e8fd cJ1_inflate_0e8fd 5 (Option.none : Option Jvm.ClassFile.FieldType)) rm_J1_inflate_0e8fd S [.ref a0, .int a1, .ref a2, .int a3, .int a4] o := ct_of (by decide +kernel) hls (Nat.le_of_ble_eq_true rfl) (fun C hl hC hE => t_J1_inflate_0e8fd hls hC hl hE h)
abbrev rm_J5_inflate_da8c8 : Room := { frames := 8, cells := 0, slots := 0, locals := 150 }
def f_J5_inflate_da8c8 (S : mS) (a0 : Nat) : Option (Rs Unit) :=
  none
set_option maxHeartbeats 2000000 in
set_option maxRecDepth 100000 in
theorem t_J5_inflate_da8c8 {l : Launch} (hls : l.stackTraces = false) {C : cT} (hC : CX C cJ5_inflate_da8c8 2 yJ5_inflate_da8c8 rm_J5_inflate_da8c8) (hl : C.2.1 = l) {S0 : mS} (hE : CE C S0 (Option.none : Option Jvm.ClassFile.FieldType) []) {o : Rs Unit} {S : mS} {a0 : Nat} (h : f_J5_inflate_da8c8 S a0 = some o) : XX C 2 (QQ C (fun _ : Unit => none) S0 o) 0 0 S 0 [(0, .ref a0)] [] := by
  unfold f_J5_inflate_da8c8 at h
  refine x_aload_n (pc := 0) hC 0 dJ5_inflate_da8c8_0 rfl rfl ?_
  cases h
theorem c_J5_inflate_da8c8 (l : Launch) (hls : l.stackTraces = false) {S : mS} {a0 : Nat} {o : Rs Unit} (h : f_J5_inflate_da8c8 S a0 = some o) : CT (fun _ : Unit => none) l yJ5_inflate_da8c8 (.code yJ5_inflate_da8c8 cJ5_inflate_da8c8 2 (Option.none : Option Jvm.ClassFile.FieldType)) rm_J5_inflate_da8c8 S [.ref a0] o := ct_of (by decide +kernel) hls (Nat.le_of_ble_eq_true rfl) (fun C hl hC hE => t_J5_inflate_da8c8 hls hC hl hE h)
abbrev rm_J5_append_cf1ce : Room := { frames := 9, cells := 0, slots := 0, locals := 170 }
def f_J5_append_cf1ce (S : mS) (a0 : Nat) (a1 : Nat) : Option (Rs Nat) :=
  if a1 = 0 then (none) else (gd (gK S a1 = 1) (bd (f_J0_length_8abf5 S a1) fun x2 S3 => gd (gK S3 a0 = 2) (lt9 (gI S3 a0 3) fun x7 => lt9 (x7 + x2) fun x8 => none)))
set_option maxHeartbeats 2000000 in
set_option maxRecDepth 100000 in
theorem t_J5_append_cf1ce {l : Launch} (hls : l.stackTraces = false) {C : cT} (hC : CX C cJ5_append_cf1ce 3 yJ5_append_cf1ce rm_J5_append_cf1ce) (hl : C.2.1 = l) {S0 : mS} (hE : CE C S0 (Option.some (Jvm.ClassFile.FieldType.object "java/lang/AbstractStringBuilder")) []) {o : Rs Nat} {S : mS} {a0 : Nat} {a1 : Nat} (h : f_J5_append_cf1ce S a0 a1 = some o) : XX C 3 (QQ C (fun r : Nat => some (.ref r)) S0 o) 0 0 S 0 [(0, .ref a0), (1, .ref a1)] [] := by
  unfold f_J5_append_cf1ce at h
  refine x_aload_n (pc := 0) hC 1 dJ5_append_cf1ce_0 rfl rfl ?_
  refine x_ifnonnull (pc := 1) hC 9 dJ5_append_cf1ce_1 (by decide) (fun c9 => ?_) (fun c9 => ?_)
  · rw [if_neg c9] at h
    refine x_aload_n (pc := 9) hC 1 dJ5_append_cf1ce_9 rfl rfl ?_
    obtain ⟨g1, h⟩ := gd_some h
    obtain ⟨o4, ho4, h⟩ := bd_some h
    refine x_callV (pc := 10) (As := []) (rest := []) hC hl (c_J0_length_8abf5 l hls ho4) lk_RJ5_32 fc_1 g1 dJ5_append_cf1ce_10 rfl rfl (Nat.le_of_ble_eq_true rfl) ⟨Nat.le_of_ble_eq_true rfl, Nat.le_of_ble_eq_true rfl⟩ ⟨(Nat.le_of_ble_eq_true rfl), (Nat.le_of_ble_eq_true rfl)⟩ ?_
    rcases o4 with ⟨x2 | E5, S3⟩
    · refine xk_i ?_
      replace h := bk_l h
      refine x_istore_n (pc := 13) hC dJ5_append_cf1ce_13 rfl (by decide) (by decide) rfl ?_
      refine x_aload_n (pc := 14) hC 1 dJ5_append_cf1ce_14 rfl rfl ?_
      refine x_aload_n (pc := 15) hC 1 dJ5_append_cf1ce_15 rfl rfl ?_
      obtain ⟨g6, h⟩ := gd_some h
      refine x_getIv (pc := 16) (k := 3) hC fc_2 fl_RJ5_79 dJ5_append_cf1ce_16 rfl g6 (fun x7 hx7 => ?_)
      replace h := lt_x hx7 h
      refine x_iload_n (pc := 19) hC 0 dJ5_append_cf1ce_19 rfl rfl ?_
      refine x_iaddv (pc := 20) hC dJ5_append_cf1ce_20 (fun x8 hx8 => ?_)
      replace h := lt_x hx8 h
      cases h
    · exact xk_r (xt_out hC hE (bk_r h) (Nat.le_of_ble_eq_true rfl) (Nat.le_of_ble_eq_true rfl))
  · rw [if_pos c9] at h
    refine x_aload_n (pc := 4) hC 0 dJ5_append_cf1ce_4 rfl rfl ?_
    cases h
theorem c_J5_append_cf1ce (l : Launch) (hls : l.stackTraces = false) {S : mS} {a0 : Nat} {a1 : Nat} {o : Rs Nat} (h : f_J5_append_cf1ce S a0 a1 = some o) : CT (fun r : Nat => some (.ref r)) l yJ5_append_cf1ce (.code yJ5_append_cf1ce cJ5_append_cf1ce 3 (Option.some (Jvm.ClassFile.FieldType.object "java/lang/AbstractStringBuilder"))) rm_J5_append_cf1ce S [.ref a0, .ref a1] o := ct_of (by decide +kernel) hls (Nat.le_of_ble_eq_true rfl) (fun C hl hC hE => t_J5_append_cf1ce hls hC hl hE h)
abbrev rm_J2_putCharsAt_cd4e5 : Room := { frames := 10, cells := 0, slots := 0, locals := 194 }
def f_J2_putCharsAt_cd4e5 (S : mS) (a0 : Nat) (a1 : Int32) (a2 : Int32) (a3 : Int32) (a4 : Int32) (a5 : Int32) : Option (Rs Int32) :=
  lt9 (a1 + (4 : Int32)) fun x1 => bd (f_J2_checkBoundsBeginEnd_d044e S a1 x1 a0) fun _ S3 => lt9 (a1 + Int32.ofInt (1)) fun x6 => bd (f_J2_putChar_b72d1 S3 a0 a1 a2) fun _ S8 => lt9 (x6 + Int32.ofInt (1)) fun x11 => bd (f_J2_putChar_b72d1 S8 a0 x6 a3) fun _ S13 => lt9 (x11 + Int32.ofInt (1)) fun x16 => bd (f_J2_putChar_b72d1 S13 a0 x11 a4) fun _ S18 => lt9 (x16 + Int32.ofInt (1)) fun x21 => bd (f_J2_putChar_b72d1 S18 a0 x16 a5) fun _ S23 => none
set_option maxHeartbeats 2000000 in
set_option maxRecDepth 100000 in
theorem t_J2_putCharsAt_cd4e5 {l : Launch} (hls : l.stackTraces = false) {C : cT} (hC : CX C cJ2_putCharsAt_cd4e5 7 yJ2_putCharsAt_cd4e5 rm_J2_putCharsAt_cd4e5) (hl : C.2.1 = l) {S0 : mS} (hE : CE C S0 (Option.some Jvm.ClassFile.FieldType.int) []) {o : Rs Int32} {S : mS} {a0 : Nat} {a1 : Int32} {a2 : Int32} {a3 : Int32} {a4 : Int32} {a5 : Int32} (h : f_J2_putCharsAt_cd4e5 S a0 a1 a2 a3 a4 a5 = some o) : XX C 7 (QQ C (fun r : Int32 => some (.int r)) S0 o) 0 0 S 0 [(0, .ref a0), (1, .int a1), (2, .int a2), (3, .int a3), (4, .int a4), (5, .int a5)] [] := by
  unfold f_J2_putCharsAt_cd4e5 at h
  refine x_iload_n (pc := 0) hC 1 dJ2_putCharsAt_cd4e5_0 rfl rfl ?_
  refine x_iconst (pc := 1) (v := (4 : Int32)) hC dJ2_putCharsAt_cd4e5_1 (by decide) ?_
  refine x_iaddv (pc := 2) hC dJ2_putCharsAt_cd4e5_2 (fun x1 hx1 => ?_)
  replace h := lt_x hx1 h
  refine x_istore (pc := 3) hC dJ2_putCharsAt_cd4e5_3 (by decide) (by decide) rfl ?_
  refine x_iload_n (pc := 5) hC 2 dJ2_putCharsAt_cd4e5_5 rfl rfl ?_
  refine x_iload (pc := 6) hC 0 dJ2_putCharsAt_cd4e5_6 rfl ?_
  refine x_aload_n (pc := 8) hC 1 dJ2_putCharsAt_cd4e5_8 rfl rfl ?_
  obtain ⟨o4, ho4, h⟩ := bd_some h
  refine x_callS (pc := 9) (As := [.int a1, .int x1, .ref a0]) (rest := []) hC hl (c_J2_checkBoundsBeginEnd_d044e l hls ho4) lk_RJ2_96 dJ2_putCharsAt_cd4e5_9 rfl rfl (Nat.le_of_ble_eq_true rfl) ⟨Nat.le_of_ble_eq_true rfl, Nat.le_of_ble_eq_true rfl⟩ ⟨(Nat.le_of_ble_eq_true rfl), (Nat.le_of_ble_eq_true rfl)⟩ ?_
  rcases o4 with ⟨_ | E5, S3⟩
  · refine xk_v ?_
    replace h := bk_l h
    refine x_aload_n (pc := 12) hC 1 dJ2_putCharsAt_cd4e5_12 rfl rfl ?_
    refine x_iload_n (pc := 13) hC 2 dJ2_putCharsAt_cd4e5_13 rfl rfl ?_
    obtain ⟨x6, hx6⟩ : ∃ z, z = (a1 + Int32.ofInt (1)) := ⟨_, rfl⟩
    replace h := lt_x hx6 h
    refine x_iinc (pc := 14) hC 2 dJ2_putCharsAt_cd4e5_14 rfl hx6.symm (by decide) (by decide) rfl ?_
    refine x_iload_n (pc := 17) hC 3 dJ2_putCharsAt_cd4e5_17 rfl rfl ?_
    obtain ⟨o9, ho9, h⟩ := bd_some h
    refine x_callS (pc := 18) (As := [.ref a0, .int a1, .int a2]) (rest := []) hC hl (c_J2_putChar_b72d1 l hls ho9) lk_RJ2_111 dJ2_putCharsAt_cd4e5_18 rfl rfl (Nat.le_of_ble_eq_true rfl) ⟨Nat.le_of_ble_eq_true rfl, Nat.le_of_ble_eq_true rfl⟩ ⟨(Nat.le_of_ble_eq_true rfl), (Nat.le_of_ble_eq_true rfl)⟩ ?_
    rcases o9 with ⟨_ | E10, S8⟩
    · refine xk_v ?_
      replace h := bk_l h
      refine x_aload_n (pc := 21) hC 2 dJ2_putCharsAt_cd4e5_21 rfl rfl ?_
      refine x_iload_n (pc := 22) hC 0 dJ2_putCharsAt_cd4e5_22 rfl rfl ?_
      obtain ⟨x11, hx11⟩ : ∃ z, z = (x6 + Int32.ofInt (1)) := ⟨_, rfl⟩
      replace h := lt_x hx11 h
      refine x_iinc (pc := 23) hC 0 dJ2_putCharsAt_cd4e5_23 rfl hx11.symm (by decide) (by decide) rfl ?_
      refine x_iload_n (pc := 26) hC 4 dJ2_putCharsAt_cd4e5_26 rfl rfl ?_
      obtain ⟨o14, ho14, h⟩ := bd_some h
      refine x_callS (pc := 27) (As := [.ref a0, .int x6, .int a3]) (rest := []) hC hl (c_J2_putChar_b72d1 l hls ho14) lk_RJ2_111 dJ2_putCharsAt_cd4e5_27 rfl rfl (Nat.le_of_ble_eq_true rfl) ⟨Nat.le_of_ble_eq_true rfl, Nat.le_of_ble_eq_true rfl⟩ ⟨(Nat.le_of_ble_eq_true rfl), (Nat.le_of_ble_eq_true rfl)⟩ ?_
      rcases o14 with ⟨_ | E15, S13⟩
      · refine xk_v ?_
        replace h := bk_l h
        refine x_aload_n (pc := 30) hC 2 dJ2_putCharsAt_cd4e5_30 rfl rfl ?_
        refine x_iload_n (pc := 31) hC 0 dJ2_putCharsAt_cd4e5_31 rfl rfl ?_
        obtain ⟨x16, hx16⟩ : ∃ z, z = (x11 + Int32.ofInt (1)) := ⟨_, rfl⟩
        replace h := lt_x hx16 h
        refine x_iinc (pc := 32) hC 0 dJ2_putCharsAt_cd4e5_32 rfl hx16.symm (by decide) (by decide) rfl ?_
        refine x_iload (pc := 35) hC 5 dJ2_putCharsAt_cd4e5_35 rfl ?_
        obtain ⟨o19, ho19, h⟩ := bd_some h
        refine x_callS (pc := 37) (As := [.ref a0, .int x11, .int a4]) (rest := []) hC hl (c_J2_putChar_b72d1 l hls ho19) lk_RJ2_111 dJ2_putCharsAt_cd4e5_37 rfl rfl (Nat.le_of_ble_eq_true rfl) ⟨Nat.le_of_ble_eq_true rfl, Nat.le_of_ble_eq_true rfl⟩ ⟨(Nat.le_of_ble_eq_true rfl), (Nat.le_of_ble_eq_true rfl)⟩ ?_
        rcases o19 with ⟨_ | E20, S18⟩
        · refine xk_v ?_
          replace h := bk_l h
          refine x_aload_n (pc := 40) hC 2 dJ2_putCharsAt_cd4e5_40 rfl rfl ?_
          refine x_iload_n (pc := 41) hC 0 dJ2_putCharsAt_cd4e5_41 rfl rfl ?_
          obtain ⟨x21, hx21⟩ : ∃ z, z = (x16 + Int32.ofInt (1)) := ⟨_, rfl⟩
          replace h := lt_x hx21 h
          refine x_iinc (pc := 42) hC 0 dJ2_putCharsAt_cd4e5_42 rfl hx21.symm (by decide) (by decide) rfl ?_
          refine x_iload (pc := 45) hC 6 dJ2_putCharsAt_cd4e5_45 rfl ?_
          obtain ⟨o24, ho24, h⟩ := bd_some h
          refine x_callS (pc := 47) (As := [.ref a0, .int x16, .int a5]) (rest := []) hC hl (c_J2_putChar_b72d1 l hls ho24) lk_RJ2_111 dJ2_putCharsAt_cd4e5_47 rfl rfl (Nat.le_of_ble_eq_true rfl) ⟨Nat.le_of_ble_eq_true rfl, Nat.le_of_ble_eq_true rfl⟩ ⟨(Nat.le_of_ble_eq_true rfl), (Nat.le_of_ble_eq_true rfl)⟩ ?_
          rcases o24 with ⟨_ | E25, S23⟩
          · refine xk_v ?_
            replace h := bk_l h
            cases h
          · exact xk_r (xt_out hC hE (bk_r h) (Nat.le_of_ble_eq_true rfl) (Nat.le_of_ble_eq_true rfl))
        · exact xk_r (xt_out hC hE (bk_r h) (Nat.le_of_ble_eq_true rfl) (Nat.le_of_ble_eq_true rfl))
      · exact xk_r (xt_out hC hE (bk_r h) (Nat.le_of_ble_eq_true rfl) (Nat.le_of_ble_eq_true rfl))
    · exact xk_r (xt_out hC hE (bk_r h) (Nat.le_of_ble_eq_true rfl) (Nat.le_of_ble_eq_true rfl))
  · exact xk_r (xt_out hC hE (bk_r h) (Nat.le_of_ble_eq_true rfl) (Nat.le_of_ble_eq_true rfl))
theorem c_J2_putCharsAt_cd4e5 (l : Launch) (hls : l.stackTraces = false) {S : mS} {a0 : Nat} {a1 : Int32} {a2 : Int32} {a3 : Int32} {a4 : Int32} {a5 : Int32} {o : Rs Int32} (h : f_J2_putCharsAt_cd4e5 S a0 a1 a2 a3 a4 a5 = some o) : CT (fun r : Int32 => some (.int r)) l yJ2_putCharsAt_cd4e5 (.code yJ2_putCharsAt_cd4e5 cJ2_putCharsAt_cd4e5 7 (Option.some Jvm.ClassFile.FieldType.int)) rm_J2_putCharsAt_cd4e5 S [.ref a0, .int a1, .int a2, .int a3, .int a4, .int a5] o := ct_of (by decide +kernel) hls (Nat.le_of_ble_eq_true rfl) (fun C hl hC hE => t_J2_putCharsAt_cd4e5 hls hC hl hE h)
abbrev rm_J5_appendNull_278bc : Room := { frames := 8, cells := 0, slots := 0, locals := 150 }
def f_J5_appendNull_278bc (S : mS) (a0 : Nat) : Option (Rs Nat) :=
  gd (gK S a0 = 2) (lt9 (gI S a0 3) fun x2 => lt9 (x2 + (4 : Int32)) fun x3 => none)
set_option maxHeartbeats 2000000 in
set_option maxRecDepth 100000 in
theorem t_J5_appendNull_278bc {l : Launch} (hls : l.stackTraces = false) {C : cT} (hC : CX C cJ5_appendNull_278bc 3 yJ5_appendNull_278bc rm_J5_appendNull_278bc) (hl : C.2.1 = l) {S0 : mS} (hE : CE C S0 (Option.some (Jvm.ClassFile.FieldType.object "java/lang/AbstractStringBuilder")) []) {o : Rs Nat} {S : mS} {a0 : Nat} (h : f_J5_appendNull_278bc S a0 = some o) : XX C 3 (QQ C (fun r : Nat => some (.ref r)) S0 o) 0 0 S 0 [(0, .ref a0)] [] := by
  unfold f_J5_appendNull_278bc at h
  refine x_aload_n (pc := 0) hC 0 dJ5_appendNull_278bc_0 rfl rfl ?_
  refine x_aload_n (pc := 1) hC 0 dJ5_appendNull_278bc_1 rfl rfl ?_
  obtain ⟨g1, h⟩ := gd_some h
  refine x_getIv (pc := 2) (k := 3) hC fc_2 fl_RJ5_79 dJ5_appendNull_278bc_2 rfl g1 (fun x2 hx2 => ?_)
  replace h := lt_x hx2 h
  refine x_iconst (pc := 5) (v := (4 : Int32)) hC dJ5_appendNull_278bc_5 (by decide) ?_
  refine x_iaddv (pc := 6) hC dJ5_appendNull_278bc_6 (fun x3 hx3 => ?_)
  replace h := lt_x hx3 h
  cases h
theorem c_J5_appendNull_278bc (l : Launch) (hls : l.stackTraces = false) {S : mS} {a0 : Nat} {o : Rs Nat} (h : f_J5_appendNull_278bc S a0 = some o) : CT (fun r : Nat => some (.ref r)) l yJ5_appendNull_278bc (.code yJ5_appendNull_278bc cJ5_appendNull_278bc 3 (Option.some (Jvm.ClassFile.FieldType.object "java/lang/AbstractStringBuilder"))) rm_J5_appendNull_278bc S [.ref a0] o := ct_of (by decide +kernel) hls (Nat.le_of_ble_eq_true rfl) (fun C hl hC hE => t_J5_appendNull_278bc hls hC hl hE h)
abbrev rm_J1_canEncode_fc78d : Room := { frames := 8, cells := 0, slots := 0, locals := 150 }
def f_J1_canEncode_fc78d_12  (S : mS) (s0 : Int32) : Option (Rs Int32) :=
  gd (s0 = 0 ∨ s0 = 1) (some (.inl s0, S))
set_option maxHeartbeats 2000000 in
set_option maxRecDepth 100000 in
theorem t_J1_canEncode_fc78d_12 {l : Launch} (hls : l.stackTraces = false) {C : cT} (hC : CX C cJ1_canEncode_fc78d 1 yJ1_canEncode_fc78d rm_J1_canEncode_fc78d) (hl : C.2.1 = l) {S0 : mS} (hE : CE C S0 (Option.some Jvm.ClassFile.FieldType.boolean) []) {o : Rs Int32} {S : mS} {s0 : Int32} (h : f_J1_canEncode_fc78d_12  S s0 = some o) : XX C 1 (QQ C (fun r : Int32 => some (.int r)) S0 o) (0) (0) S 12 [] [.int s0] := by
  unfold f_J1_canEncode_fc78d_12 at h
  obtain ⟨g1, h⟩ := gd_some h
  exact x_zreturn (pc := 12) hC hE dJ1_canEncode_fc78d_12 (nf_B g1).1 (so h) (Nat.le_of_ble_eq_true rfl) (Nat.le_of_ble_eq_true rfl)
def f_J1_canEncode_fc78d (S : mS) (a0 : Int32) : Option (Rs Int32) :=
  if (255 : Int32) < a0 then (f_J1_canEncode_fc78d_12  S (0 : Int32)) else (f_J1_canEncode_fc78d_12  S (1 : Int32))
set_option maxHeartbeats 2000000 in
set_option maxRecDepth 100000 in
theorem t_J1_canEncode_fc78d {l : Launch} (hls : l.stackTraces = false) {C : cT} (hC : CX C cJ1_canEncode_fc78d 1 yJ1_canEncode_fc78d rm_J1_canEncode_fc78d) (hl : C.2.1 = l) {S0 : mS} (hE : CE C S0 (Option.some Jvm.ClassFile.FieldType.boolean) []) {o : Rs Int32} {S : mS} {a0 : Int32} (h : f_J1_canEncode_fc78d S a0 = some o) : XX C 1 (QQ C (fun r : Int32 => some (.int r)) S0 o) 0 0 S 0 [(0, .int a0)] [] := by
  unfold f_J1_canEncode_fc78d at h
  refine x_iload_n (pc := 0) hC 0 dJ1_canEncode_fc78d_0 rfl rfl ?_
  refine x_sipush (pc := 1) (v := (255 : Int32)) hC dJ1_canEncode_fc78d_1 (by decide) ?_
  refine x_icmp_gt (pc := 4) hC 11 dJ1_canEncode_fc78d_4 (by decide) (fun c1 => ?_) (fun c1 => ?_)
  · rw [if_pos c1] at h
    refine x_iconst (pc := 11) (v := (0 : Int32)) hC dJ1_canEncode_fc78d_11 (by decide) ?_
    refine x_pick [] rfl ?_
    exact t_J1_canEncode_fc78d_12 hls hC hl hE h
  · rw [if_neg c1] at h
    refine x_iconst (pc := 7) (v := (1 : Int32)) hC dJ1_canEncode_fc78d_7 (by decide) ?_
    refine x_goto (pc := 8) hC 12 dJ1_canEncode_fc78d_8 (by decide) ?_
    refine x_pick [] rfl ?_
    exact t_J1_canEncode_fc78d_12 hls hC hl hE h
theorem c_J1_canEncode_fc78d (l : Launch) (hls : l.stackTraces = false) {S : mS} {a0 : Int32} {o : Rs Int32} (h : f_J1_canEncode_fc78d S a0 = some o) : CT (fun r : Int32 => some (.int r)) l yJ1_canEncode_fc78d (.code yJ1_canEncode_fc78d cJ1_canEncode_fc78d 1 (Option.some Jvm.ClassFile.FieldType.boolean)) rm_J1_canEncode_fc78d S [.int a0] o := ct_of (by decide +kernel) hls (Nat.le_of_ble_eq_true rfl) (fun C hl hC hE => t_J1_canEncode_fc78d hls hC hl hE h)
abbrev rm_J2_putCharSB_b72d1 : Room := { frames := 10, cells := 0, slots := 0, locals := 192 }
def f_J2_putCharSB_b72d1 (S : mS) (a0 : Nat) (a1 : Int32) (a2 : Int32) : Option (Rs Unit) :=
  bd (f_J2_checkIndex_2214a S a1 a0) fun _ S2 => bd (f_J2_putChar_b72d1 S2 a0 a1 a2) fun _ S6 => some (.inl (), S6)
set_option maxHeartbeats 2000000 in
set_option maxRecDepth 100000 in
theorem t_J2_putCharSB_b72d1 {l : Launch} (hls : l.stackTraces = false) {C : cT} (hC : CX C cJ2_putCharSB_b72d1 3 yJ2_putCharSB_b72d1 rm_J2_putCharSB_b72d1) (hl : C.2.1 = l) {S0 : mS} (hE : CE C S0 (Option.none : Option Jvm.ClassFile.FieldType) []) {o : Rs Unit} {S : mS} {a0 : Nat} {a1 : Int32} {a2 : Int32} (h : f_J2_putCharSB_b72d1 S a0 a1 a2 = some o) : XX C 3 (QQ C (fun _ : Unit => none) S0 o) 0 0 S 0 [(0, .ref a0), (1, .int a1), (2, .int a2)] [] := by
  unfold f_J2_putCharSB_b72d1 at h
  refine x_iload_n (pc := 0) hC 1 dJ2_putCharSB_b72d1_0 rfl rfl ?_
  refine x_aload_n (pc := 1) hC 0 dJ2_putCharSB_b72d1_1 rfl rfl ?_
  obtain ⟨o3, ho3, h⟩ := bd_some h
  refine x_callS (pc := 2) (As := [.int a1, .ref a0]) (rest := []) hC hl (c_J2_checkIndex_2214a l hls ho3) lk_RJ2_67 dJ2_putCharSB_b72d1_2 rfl rfl (Nat.le_of_ble_eq_true rfl) ⟨Nat.le_of_ble_eq_true rfl, Nat.le_of_ble_eq_true rfl⟩ ⟨(Nat.le_of_ble_eq_true rfl), (Nat.le_of_ble_eq_true rfl)⟩ ?_
  rcases o3 with ⟨_ | E4, S2⟩
  · refine xk_v ?_
    replace h := bk_l h
    refine x_aload_n (pc := 5) hC 0 dJ2_putCharSB_b72d1_5 rfl rfl ?_
    refine x_iload_n (pc := 6) hC 1 dJ2_putCharSB_b72d1_6 rfl rfl ?_
    refine x_iload_n (pc := 7) hC 2 dJ2_putCharSB_b72d1_7 rfl rfl ?_
    obtain ⟨o7, ho7, h⟩ := bd_some h
    refine x_callS (pc := 8) (As := [.ref a0, .int a1, .int a2]) (rest := []) hC hl (c_J2_putChar_b72d1 l hls ho7) lk_RJ2_111 dJ2_putCharSB_b72d1_8 rfl rfl (Nat.le_of_ble_eq_true rfl) ⟨Nat.le_of_ble_eq_true rfl, Nat.le_of_ble_eq_true rfl⟩ ⟨(Nat.le_of_ble_eq_true rfl), (Nat.le_of_ble_eq_true rfl)⟩ ?_
    rcases o7 with ⟨_ | E8, S6⟩
    · refine xk_v ?_
      replace h := bk_l h
      exact x_vreturn (pc := 11) hC hE dJ2_putCharSB_b72d1_11 (so h) (Nat.le_of_ble_eq_true rfl) (Nat.le_of_ble_eq_true rfl)
    · exact xk_r (xt_out hC hE (bk_r h) (Nat.le_of_ble_eq_true rfl) (Nat.le_of_ble_eq_true rfl))
  · exact xk_r (xt_out hC hE (bk_r h) (Nat.le_of_ble_eq_true rfl) (Nat.le_of_ble_eq_true rfl))
theorem c_J2_putCharSB_b72d1 (l : Launch) (hls : l.stackTraces = false) {S : mS} {a0 : Nat} {a1 : Int32} {a2 : Int32} {o : Rs Unit} (h : f_J2_putCharSB_b72d1 S a0 a1 a2 = some o) : CT (fun _ : Unit => none) l yJ2_putCharSB_b72d1 (.code yJ2_putCharSB_b72d1 cJ2_putCharSB_b72d1 3 (Option.none : Option Jvm.ClassFile.FieldType)) rm_J2_putCharSB_b72d1 S [.ref a0, .int a1, .int a2] o := ct_of (by decide +kernel) hls (Nat.le_of_ble_eq_true rfl) (fun C hl hC hE => t_J2_putCharSB_b72d1 hls hC hl hE h)
abbrev rm_J5_append_3fe6f : Room := { frames := 8, cells := 0, slots := 0, locals := 150 }
def f_J5_append_3fe6f (S : mS) (a0 : Nat) (a1 : Int32) : Option (Rs Nat) :=
  gd (gK S a0 = 2) (lt9 (gI S a0 3) fun x2 => lt9 (x2 + (1 : Int32)) fun x3 => none)
set_option maxHeartbeats 2000000 in
set_option maxRecDepth 100000 in
theorem t_J5_append_3fe6f {l : Launch} (hls : l.stackTraces = false) {C : cT} (hC : CX C cJ5_append_3fe6f 2 yJ5_append_3fe6f rm_J5_append_3fe6f) (hl : C.2.1 = l) {S0 : mS} (hE : CE C S0 (Option.some (Jvm.ClassFile.FieldType.object "java/lang/AbstractStringBuilder")) []) {o : Rs Nat} {S : mS} {a0 : Nat} {a1 : Int32} (h : f_J5_append_3fe6f S a0 a1 = some o) : XX C 2 (QQ C (fun r : Nat => some (.ref r)) S0 o) 0 0 S 0 [(0, .ref a0), (1, .int a1)] [] := by
  unfold f_J5_append_3fe6f at h
  refine x_aload_n (pc := 0) hC 0 dJ5_append_3fe6f_0 rfl rfl ?_
  refine x_aload_n (pc := 1) hC 0 dJ5_append_3fe6f_1 rfl rfl ?_
  obtain ⟨g1, h⟩ := gd_some h
  refine x_getIv (pc := 2) (k := 3) hC fc_2 fl_RJ5_79 dJ5_append_3fe6f_2 rfl g1 (fun x2 hx2 => ?_)
  replace h := lt_x hx2 h
  refine x_iconst (pc := 5) (v := (1 : Int32)) hC dJ5_append_3fe6f_5 (by decide) ?_
  refine x_iaddv (pc := 6) hC dJ5_append_3fe6f_6 (fun x3 hx3 => ?_)
  replace h := lt_x hx3 h
  cases h
theorem c_J5_append_3fe6f (l : Launch) (hls : l.stackTraces = false) {S : mS} {a0 : Nat} {a1 : Int32} {o : Rs Nat} (h : f_J5_append_3fe6f S a0 a1 = some o) : CT (fun r : Nat => some (.ref r)) l yJ5_append_3fe6f (.code yJ5_append_3fe6f cJ5_append_3fe6f 2 (Option.some (Jvm.ClassFile.FieldType.object "java/lang/AbstractStringBuilder"))) rm_J5_append_3fe6f S [.ref a0, .int a1] o := ct_of (by decide +kernel) hls (Nat.le_of_ble_eq_true rfl) (fun C hl hC hE => t_J5_append_3fe6f hls hC hl hE h)
abbrev rm_J2_getChars_ba4f3 : Room := { frames := 8, cells := 0, slots := 0, locals := 150 }
def f_J2_getChars_ba4f3_22  : Nat → mS → Int32 → Nat → Int32 → Int32 → Option (Rs Int32)
  | 0, _, _, _, _, _ => none
  | k + 1, S, a0, a2, a5, a6 => if (-100 : Int32) < a0 then (lt9 (a5 + Int32.ofInt (-1)) fun x1 => none) else (gd (¬ (100 : Int32) = 0) (lt9 (a0 / (100 : Int32)) fun x2 => lt9 (x2 * (100 : Int32)) fun x4 => lt9 (x4 - a0) fun x5 => none))
set_option maxHeartbeats 2000000 in
set_option maxRecDepth 100000 in
theorem t_J2_getChars_ba4f3_22 {l : Launch} (hls : l.stackTraces = false) {C : cT} (hC : CX C cJ2_getChars_ba4f3 7 yJ2_getChars_ba4f3 rm_J2_getChars_ba4f3) (hl : C.2.1 = l) {S0 : mS} (hE : CE C S0 (Option.some Jvm.ClassFile.FieldType.int) []) {o : Rs Int32} : ∀ (k : Nat) (S : mS) (a0 : Int32) (a2 : Nat) (a5 : Int32) (a6 : Int32), f_J2_getChars_ba4f3_22  k S a0 a2 a5 a6 = some o → XX C 7 (QQ C (fun r : Int32 => some (.int r)) S0 o) (0) (0) S 22 [(0, .int a0), (2, .ref a2), (5, .int a5), (6, .int a6)] [] := by
  intro k
  induction k with
  | zero => intro S a0 a2 a5 a6 h; cases h
  | succ k ih =>
    intro S a0 a2 a5 a6 h
    unfold f_J2_getChars_ba4f3_22 at h
    dsimp only at h
    refine x_iload_n (pc := 22) hC 0 dJ2_getChars_ba4f3_22 rfl rfl ?_
    refine x_bipush (pc := 23) (v := (-100 : Int32)) hC dJ2_getChars_ba4f3_23 (by decide) ?_
    refine x_icmp_gt (pc := 25) hC 76 dJ2_getChars_ba4f3_25 (by decide) (fun c6 => ?_) (fun c6 => ?_)
    · rw [if_pos c6] at h
      refine x_aload_n (pc := 76) hC 1 dJ2_getChars_ba4f3_76 rfl rfl ?_
      obtain ⟨x1, hx1⟩ : ∃ z, z = (a5 + Int32.ofInt (-1)) := ⟨_, rfl⟩
      replace h := lt_x hx1 h
      refine x_iinc (pc := 77) hC 2 dJ2_getChars_ba4f3_77 rfl hx1.symm (by decide) (by decide) rfl ?_
      refine x_iload (pc := 80) hC 0 dJ2_getChars_ba4f3_80 rfl ?_
      cases h
    · rw [if_neg c6] at h
      refine x_iload_n (pc := 28) hC 0 dJ2_getChars_ba4f3_28 rfl rfl ?_
      refine x_bipush (pc := 29) (v := (100 : Int32)) hC dJ2_getChars_ba4f3_29 (by decide) ?_
      obtain ⟨g3, h⟩ := gd_some h
      refine x_idivv (pc := 31) hC dJ2_getChars_ba4f3_31 g3 (fun x2 hx2 => ?_)
      replace h := lt_x hx2 h
      refine x_istore_n (pc := 32) hC dJ2_getChars_ba4f3_32 rfl (by decide) (by decide) rfl ?_
      refine x_iload_n (pc := 33) hC 0 dJ2_getChars_ba4f3_33 rfl rfl ?_
      refine x_bipush (pc := 34) (v := (100 : Int32)) hC dJ2_getChars_ba4f3_34 (by decide) ?_
      refine x_imulv (pc := 36) hC dJ2_getChars_ba4f3_36 (fun x4 hx4 => ?_)
      replace h := lt_x hx4 h
      refine x_iload_n (pc := 37) hC 1 dJ2_getChars_ba4f3_37 rfl rfl ?_
      refine x_isubv (pc := 38) hC dJ2_getChars_ba4f3_38 (fun x5 hx5 => ?_)
      replace h := lt_x hx5 h
      refine x_istore (pc := 39) hC dJ2_getChars_ba4f3_39 (by decide) (by decide) rfl ?_
      refine x_iload_n (pc := 41) hC 1 dJ2_getChars_ba4f3_41 rfl rfl ?_
      cases h
def f_J2_getChars_ba4f3_12  (S : mS) (a0 : Int32) (a2 : Nat) (a5 : Int32) (s0 : Int32) : Option (Rs Int32) :=
  if s0 = 0 then (lt9 (-a0) fun x1 => none) else (f_J2_getChars_ba4f3_22  16 S a0 a2 a5 s0)
set_option maxHeartbeats 2000000 in
set_option maxRecDepth 100000 in
theorem t_J2_getChars_ba4f3_12 {l : Launch} (hls : l.stackTraces = false) {C : cT} (hC : CX C cJ2_getChars_ba4f3 7 yJ2_getChars_ba4f3 rm_J2_getChars_ba4f3) (hl : C.2.1 = l) {S0 : mS} (hE : CE C S0 (Option.some Jvm.ClassFile.FieldType.int) []) {o : Rs Int32} {S : mS} {a0 : Int32} {a2 : Nat} {a5 : Int32} {s0 : Int32} (h : f_J2_getChars_ba4f3_12  S a0 a2 a5 s0 = some o) : XX C 7 (QQ C (fun r : Int32 => some (.int r)) S0 o) (0) (0) S 12 [(0, .int a0), (2, .ref a2), (5, .int a5)] [.int s0] := by
  unfold f_J2_getChars_ba4f3_12 at h
  refine x_istore (pc := 12) hC dJ2_getChars_ba4f3_12 (by decide) (by decide) rfl ?_
  refine x_iload (pc := 14) hC 0 dJ2_getChars_ba4f3_14 rfl ?_
  refine x_if_ne (pc := 16) hC 22 dJ2_getChars_ba4f3_16 (by decide) (fun c2 => ?_) (fun c2 => ?_)
  · rw [if_neg c2] at h
    refine x_pick [1, 2, 3, 0] rfl ?_
    exact t_J2_getChars_ba4f3_22 hls hC hl hE 16 _ _ _ _ _ h
  · rw [if_pos c2] at h
    refine x_iload_n (pc := 19) hC 1 dJ2_getChars_ba4f3_19 rfl rfl ?_
    refine x_inegv (pc := 20) hC dJ2_getChars_ba4f3_20 (fun x1 hx1 => ?_)
    replace h := lt_x hx1 h
    cases h
def f_J2_getChars_ba4f3 (S : mS) (a0 : Int32) (a1 : Int32) (a2 : Nat) : Option (Rs Int32) :=
  if 0 ≤ a0 then (f_J2_getChars_ba4f3_12  S a0 a2 a1 (0 : Int32)) else (f_J2_getChars_ba4f3_12  S a0 a2 a1 (1 : Int32))
set_option maxHeartbeats 2000000 in
set_option maxRecDepth 100000 in
theorem t_J2_getChars_ba4f3 {l : Launch} (hls : l.stackTraces = false) {C : cT} (hC : CX C cJ2_getChars_ba4f3 7 yJ2_getChars_ba4f3 rm_J2_getChars_ba4f3) (hl : C.2.1 = l) {S0 : mS} (hE : CE C S0 (Option.some Jvm.ClassFile.FieldType.int) []) {o : Rs Int32} {S : mS} {a0 : Int32} {a1 : Int32} {a2 : Nat} (h : f_J2_getChars_ba4f3 S a0 a1 a2 = some o) : XX C 7 (QQ C (fun r : Int32 => some (.int r)) S0 o) 0 0 S 0 [(0, .int a0), (1, .int a1), (2, .ref a2)] [] := by
  unfold f_J2_getChars_ba4f3 at h
  refine x_iload_n (pc := 0) hC 1 dJ2_getChars_ba4f3_0 rfl rfl ?_
  refine x_istore (pc := 1) hC dJ2_getChars_ba4f3_1 (by decide) (by decide) rfl ?_
  refine x_iload_n (pc := 3) hC 1 dJ2_getChars_ba4f3_3 rfl rfl ?_
  refine x_if_ge (pc := 4) hC 11 dJ2_getChars_ba4f3_4 (by decide) (fun c1 => ?_) (fun c1 => ?_)
  · rw [if_pos c1] at h
    refine x_iconst (pc := 11) (v := (0 : Int32)) hC dJ2_getChars_ba4f3_11 (by decide) ?_
    refine x_pick [1, 3, 0] rfl ?_
    exact t_J2_getChars_ba4f3_12 hls hC hl hE h
  · rw [if_neg c1] at h
    refine x_iconst (pc := 7) (v := (1 : Int32)) hC dJ2_getChars_ba4f3_7 (by decide) ?_
    refine x_goto (pc := 8) hC 12 dJ2_getChars_ba4f3_8 (by decide) ?_
    refine x_pick [1, 3, 0] rfl ?_
    exact t_J2_getChars_ba4f3_12 hls hC hl hE h
theorem c_J2_getChars_ba4f3 (l : Launch) (hls : l.stackTraces = false) {S : mS} {a0 : Int32} {a1 : Int32} {a2 : Nat} {o : Rs Int32} (h : f_J2_getChars_ba4f3 S a0 a1 a2 = some o) : CT (fun r : Int32 => some (.int r)) l yJ2_getChars_ba4f3 (.code yJ2_getChars_ba4f3 cJ2_getChars_ba4f3 7 (Option.some Jvm.ClassFile.FieldType.int)) rm_J2_getChars_ba4f3 S [.int a0, .int a1, .ref a2] o := ct_of (by decide +kernel) hls (Nat.le_of_ble_eq_true rfl) (fun C hl hC hE => t_J2_getChars_ba4f3 hls hC hl hE h)
abbrev rm_J2_getChars_46870 : Room := { frames := 10, cells := 0, slots := 0, locals := 194 }
def f_J2_getChars_46870 (S : mS) (a0 : Int32) (a1 : Int32) (a2 : Int32) (a3 : Nat) : Option (Rs Int32) :=
  bd (f_J2_checkBoundsBeginEnd_d044e S a1 a2 a3) fun _ S2 => bd (f_J2_getChars_ba4f3 S2 a0 a2 a3) fun x5 S6 => none
set_option maxHeartbeats 2000000 in
set_option maxRecDepth 100000 in
theorem t_J2_getChars_46870 {l : Launch} (hls : l.stackTraces = false) {C : cT} (hC : CX C cJ2_getChars_46870 5 yJ2_getChars_46870 rm_J2_getChars_46870) (hl : C.2.1 = l) {S0 : mS} (hE : CE C S0 (Option.some Jvm.ClassFile.FieldType.int) []) {o : Rs Int32} {S : mS} {a0 : Int32} {a1 : Int32} {a2 : Int32} {a3 : Nat} (h : f_J2_getChars_46870 S a0 a1 a2 a3 = some o) : XX C 5 (QQ C (fun r : Int32 => some (.int r)) S0 o) 0 0 S 0 [(0, .int a0), (1, .int a1), (2, .int a2), (3, .ref a3)] [] := by
  unfold f_J2_getChars_46870 at h
  refine x_iload_n (pc := 0) hC 1 dJ2_getChars_46870_0 rfl rfl ?_
  refine x_iload_n (pc := 1) hC 2 dJ2_getChars_46870_1 rfl rfl ?_
  refine x_aload_n (pc := 2) hC 3 dJ2_getChars_46870_2 rfl rfl ?_
  obtain ⟨o3, ho3, h⟩ := bd_some h
  refine x_callS (pc := 3) (As := [.int a1, .int a2, .ref a3]) (rest := []) hC hl (c_J2_checkBoundsBeginEnd_d044e l hls ho3) lk_RJ2_96 dJ2_getChars_46870_3 rfl rfl (Nat.le_of_ble_eq_true rfl) ⟨Nat.le_of_ble_eq_true rfl, Nat.le_of_ble_eq_true rfl⟩ ⟨(Nat.le_of_ble_eq_true rfl), (Nat.le_of_ble_eq_true rfl)⟩ ?_
  rcases o3 with ⟨_ | E4, S2⟩
  · refine xk_v ?_
    replace h := bk_l h
    refine x_iload_n (pc := 6) hC 0 dJ2_getChars_46870_6 rfl rfl ?_
    refine x_iload_n (pc := 7) hC 2 dJ2_getChars_46870_7 rfl rfl ?_
    refine x_aload_n (pc := 8) hC 3 dJ2_getChars_46870_8 rfl rfl ?_
    obtain ⟨o7, ho7, h⟩ := bd_some h
    refine x_callS (pc := 9) (As := [.int a0, .int a2, .ref a3]) (rest := []) hC hl (c_J2_getChars_ba4f3 l hls ho7) lk_RJ2_393 dJ2_getChars_46870_9 rfl rfl (Nat.le_of_ble_eq_true rfl) ⟨Nat.le_of_ble_eq_true rfl, Nat.le_of_ble_eq_true rfl⟩ ⟨(Nat.le_of_ble_eq_true rfl), (Nat.le_of_ble_eq_true rfl)⟩ ?_
    rcases o7 with ⟨x5 | E8, S6⟩
    · refine xk_i ?_
      replace h := bk_l h
      refine x_istore (pc := 12) hC dJ2_getChars_46870_12 (by decide) (by decide) rfl ?_
      cases h
    · exact xk_r (xt_out hC hE (bk_r h) (Nat.le_of_ble_eq_true rfl) (Nat.le_of_ble_eq_true rfl))
  · exact xk_r (xt_out hC hE (bk_r h) (Nat.le_of_ble_eq_true rfl) (Nat.le_of_ble_eq_true rfl))
theorem c_J2_getChars_46870 (l : Launch) (hls : l.stackTraces = false) {S : mS} {a0 : Int32} {a1 : Int32} {a2 : Int32} {a3 : Nat} {o : Rs Int32} (h : f_J2_getChars_46870 S a0 a1 a2 a3 = some o) : CT (fun r : Int32 => some (.int r)) l yJ2_getChars_46870 (.code yJ2_getChars_46870 cJ2_getChars_46870 5 (Option.some Jvm.ClassFile.FieldType.int)) rm_J2_getChars_46870 S [.int a0, .int a1, .int a2, .ref a3] o := ct_of (by decide +kernel) hls (Nat.le_of_ble_eq_true rfl) (fun C hl hC hE => t_J2_getChars_46870 hls hC hl hE h)
abbrev rm_J6_getChars_ba4f3 : Room := { frames := 8, cells := 0, slots := 0, locals := 150 }
def f_J6_getChars_ba4f3_22  : Nat → mS → Int32 → Nat → Int32 → Int32 → Option (Rs Int32)
  | 0, _, _, _, _, _ => none
  | k + 1, S, a0, a2, a5, a6 => if (-100 : Int32) < a0 then (lt9 (a5 + Int32.ofInt (-1)) fun x1 => none) else (gd (¬ (100 : Int32) = 0) (lt9 (a0 / (100 : Int32)) fun x2 => lt9 (x2 * (100 : Int32)) fun x4 => lt9 (x4 - a0) fun x5 => none))
set_option maxHeartbeats 2000000 in
set_option maxRecDepth 100000 in
theorem t_J6_getChars_ba4f3_22 {l : Launch} (hls : l.stackTraces = false) {C : cT} (hC : CX C cJ6_getChars_ba4f3 7 yJ6_getChars_ba4f3 rm_J6_getChars_ba4f3) (hl : C.2.1 = l) {S0 : mS} (hE : CE C S0 (Option.some Jvm.ClassFile.FieldType.int) []) {o : Rs Int32} : ∀ (k : Nat) (S : mS) (a0 : Int32) (a2 : Nat) (a5 : Int32) (a6 : Int32), f_J6_getChars_ba4f3_22  k S a0 a2 a5 a6 = some o → XX C 7 (QQ C (fun r : Int32 => some (.int r)) S0 o) (0) (0) S 22 [(0, .int a0), (2, .ref a2), (5, .int a5), (6, .int a6)] [] := by
  intro k
  induction k with
  | zero => intro S a0 a2 a5 a6 h; cases h
  | succ k ih =>
    intro S a0 a2 a5 a6 h
    unfold f_J6_getChars_ba4f3_22 at h
    dsimp only at h
    refine x_iload_n (pc := 22) hC 0 dJ6_getChars_ba4f3_22 rfl rfl ?_
    refine x_bipush (pc := 23) (v := (-100 : Int32)) hC dJ6_getChars_ba4f3_23 (by decide) ?_
    refine x_icmp_gt (pc := 25) hC 72 dJ6_getChars_ba4f3_25 (by decide) (fun c6 => ?_) (fun c6 => ?_)
    · rw [if_pos c6] at h
      refine x_aload_n (pc := 72) hC 1 dJ6_getChars_ba4f3_72 rfl rfl ?_
      obtain ⟨x1, hx1⟩ : ∃ z, z = (a5 + Int32.ofInt (-1)) := ⟨_, rfl⟩
      replace h := lt_x hx1 h
      refine x_iinc (pc := 73) hC 2 dJ6_getChars_ba4f3_73 rfl hx1.symm (by decide) (by decide) rfl ?_
      refine x_iload (pc := 76) hC 0 dJ6_getChars_ba4f3_76 rfl ?_
      cases h
    · rw [if_neg c6] at h
      refine x_iload_n (pc := 28) hC 0 dJ6_getChars_ba4f3_28 rfl rfl ?_
      refine x_bipush (pc := 29) (v := (100 : Int32)) hC dJ6_getChars_ba4f3_29 (by decide) ?_
      obtain ⟨g3, h⟩ := gd_some h
      refine x_idivv (pc := 31) hC dJ6_getChars_ba4f3_31 g3 (fun x2 hx2 => ?_)
      replace h := lt_x hx2 h
      refine x_istore_n (pc := 32) hC dJ6_getChars_ba4f3_32 rfl (by decide) (by decide) rfl ?_
      refine x_iload_n (pc := 33) hC 0 dJ6_getChars_ba4f3_33 rfl rfl ?_
      refine x_bipush (pc := 34) (v := (100 : Int32)) hC dJ6_getChars_ba4f3_34 (by decide) ?_
      refine x_imulv (pc := 36) hC dJ6_getChars_ba4f3_36 (fun x4 hx4 => ?_)
      replace h := lt_x hx4 h
      refine x_iload_n (pc := 37) hC 1 dJ6_getChars_ba4f3_37 rfl rfl ?_
      refine x_isubv (pc := 38) hC dJ6_getChars_ba4f3_38 (fun x5 hx5 => ?_)
      replace h := lt_x hx5 h
      refine x_istore (pc := 39) hC dJ6_getChars_ba4f3_39 (by decide) (by decide) rfl ?_
      refine x_iload_n (pc := 41) hC 1 dJ6_getChars_ba4f3_41 rfl rfl ?_
      cases h
def f_J6_getChars_ba4f3_12  (S : mS) (a0 : Int32) (a2 : Nat) (a5 : Int32) (s0 : Int32) : Option (Rs Int32) :=
  if s0 = 0 then (lt9 (-a0) fun x1 => none) else (f_J6_getChars_ba4f3_22  16 S a0 a2 a5 s0)
set_option maxHeartbeats 2000000 in
set_option maxRecDepth 100000 in
theorem t_J6_getChars_ba4f3_12 {l : Launch} (hls : l.stackTraces = false) {C : cT} (hC : CX C cJ6_getChars_ba4f3 7 yJ6_getChars_ba4f3 rm_J6_getChars_ba4f3) (hl : C.2.1 = l) {S0 : mS} (hE : CE C S0 (Option.some Jvm.ClassFile.FieldType.int) []) {o : Rs Int32} {S : mS} {a0 : Int32} {a2 : Nat} {a5 : Int32} {s0 : Int32} (h : f_J6_getChars_ba4f3_12  S a0 a2 a5 s0 = some o) : XX C 7 (QQ C (fun r : Int32 => some (.int r)) S0 o) (0) (0) S 12 [(0, .int a0), (2, .ref a2), (5, .int a5)] [.int s0] := by
  unfold f_J6_getChars_ba4f3_12 at h
  refine x_istore (pc := 12) hC dJ6_getChars_ba4f3_12 (by decide) (by decide) rfl ?_
  refine x_iload (pc := 14) hC 0 dJ6_getChars_ba4f3_14 rfl ?_
  refine x_if_ne (pc := 16) hC 22 dJ6_getChars_ba4f3_16 (by decide) (fun c2 => ?_) (fun c2 => ?_)
  · rw [if_neg c2] at h
    refine x_pick [1, 2, 3, 0] rfl ?_
    exact t_J6_getChars_ba4f3_22 hls hC hl hE 16 _ _ _ _ _ h
  · rw [if_pos c2] at h
    refine x_iload_n (pc := 19) hC 1 dJ6_getChars_ba4f3_19 rfl rfl ?_
    refine x_inegv (pc := 20) hC dJ6_getChars_ba4f3_20 (fun x1 hx1 => ?_)
    replace h := lt_x hx1 h
    cases h
def f_J6_getChars_ba4f3 (S : mS) (a0 : Int32) (a1 : Int32) (a2 : Nat) : Option (Rs Int32) :=
  if 0 ≤ a0 then (f_J6_getChars_ba4f3_12  S a0 a2 a1 (0 : Int32)) else (f_J6_getChars_ba4f3_12  S a0 a2 a1 (1 : Int32))
set_option maxHeartbeats 2000000 in
set_option maxRecDepth 100000 in
theorem t_J6_getChars_ba4f3 {l : Launch} (hls : l.stackTraces = false) {C : cT} (hC : CX C cJ6_getChars_ba4f3 7 yJ6_getChars_ba4f3 rm_J6_getChars_ba4f3) (hl : C.2.1 = l) {S0 : mS} (hE : CE C S0 (Option.some Jvm.ClassFile.FieldType.int) []) {o : Rs Int32} {S : mS} {a0 : Int32} {a1 : Int32} {a2 : Nat} (h : f_J6_getChars_ba4f3 S a0 a1 a2 = some o) : XX C 7 (QQ C (fun r : Int32 => some (.int r)) S0 o) 0 0 S 0 [(0, .int a0), (1, .int a1), (2, .ref a2)] [] := by
  unfold f_J6_getChars_ba4f3 at h
  refine x_iload_n (pc := 0) hC 1 dJ6_getChars_ba4f3_0 rfl rfl ?_
  refine x_istore (pc := 1) hC dJ6_getChars_ba4f3_1 (by decide) (by decide) rfl ?_
  refine x_iload_n (pc := 3) hC 1 dJ6_getChars_ba4f3_3 rfl rfl ?_
  refine x_if_ge (pc := 4) hC 11 dJ6_getChars_ba4f3_4 (by decide) (fun c1 => ?_) (fun c1 => ?_)
  · rw [if_pos c1] at h
    refine x_iconst (pc := 11) (v := (0 : Int32)) hC dJ6_getChars_ba4f3_11 (by decide) ?_
    refine x_pick [1, 3, 0] rfl ?_
    exact t_J6_getChars_ba4f3_12 hls hC hl hE h
  · rw [if_neg c1] at h
    refine x_iconst (pc := 7) (v := (1 : Int32)) hC dJ6_getChars_ba4f3_7 (by decide) ?_
    refine x_goto (pc := 8) hC 12 dJ6_getChars_ba4f3_8 (by decide) ?_
    refine x_pick [1, 3, 0] rfl ?_
    exact t_J6_getChars_ba4f3_12 hls hC hl hE h
theorem c_J6_getChars_ba4f3 (l : Launch) (hls : l.stackTraces = false) {S : mS} {a0 : Int32} {a1 : Int32} {a2 : Nat} {o : Rs Int32} (h : f_J6_getChars_ba4f3 S a0 a1 a2 = some o) : CT (fun r : Int32 => some (.int r)) l yJ6_getChars_ba4f3 (.code yJ6_getChars_ba4f3 cJ6_getChars_ba4f3 7 (Option.some Jvm.ClassFile.FieldType.int)) rm_J6_getChars_ba4f3 S [.int a0, .int a1, .ref a2] o := ct_of (by decide +kernel) hls (Nat.le_of_ble_eq_true rfl) (fun C hl hC hE => t_J6_getChars_ba4f3 hls hC hl hE h)
abbrev rm_J6_stringSize_0f7a4 : Room := { frames := 8, cells := 0, slots := 0, locals := 150 }
def f_J6_stringSize_0f7a4_16  : Nat → mS → Int32 → Int32 → Int32 → Int32 → Option (Rs Int32)
  | 0, _, _, _, _, _ => none
  | k + 1, S, a0, a1, a2, a3 => if (10 : Int32) ≤ a3 then (lt9 ((10 : Int32) + a1) fun x1 => some (.inl x1, S)) else (if a0 ≤ a2 then (lt9 ((10 : Int32) * a2) fun x2 => lt9 (a3 + Int32.ofInt (1)) fun x3 => f_J6_stringSize_0f7a4_16 k S a0 a1 x2 x3) else (lt9 (a3 + a1) fun x4 => some (.inl x4, S)))
set_option maxHeartbeats 2000000 in
set_option maxRecDepth 100000 in
theorem t_J6_stringSize_0f7a4_16 {l : Launch} (hls : l.stackTraces = false) {C : cT} (hC : CX C cJ6_stringSize_0f7a4 4 yJ6_stringSize_0f7a4 rm_J6_stringSize_0f7a4) (hl : C.2.1 = l) {S0 : mS} (hE : CE C S0 (Option.some Jvm.ClassFile.FieldType.int) []) {o : Rs Int32} : ∀ (k : Nat) (S : mS) (a0 : Int32) (a1 : Int32) (a2 : Int32) (a3 : Int32), f_J6_stringSize_0f7a4_16  k S a0 a1 a2 a3 = some o → XX C 4 (QQ C (fun r : Int32 => some (.int r)) S0 o) (0) (0) S 16 [(0, .int a0), (1, .int a1), (2, .int a2), (3, .int a3)] [] := by
  intro k
  induction k with
  | zero => intro S a0 a1 a2 a3 h; cases h
  | succ k ih =>
    intro S a0 a1 a2 a3 h
    unfold f_J6_stringSize_0f7a4_16 at h
    refine x_iload_n (pc := 16) hC 3 dJ6_stringSize_0f7a4_16 rfl rfl ?_
    refine x_bipush (pc := 17) (v := (10 : Int32)) hC dJ6_stringSize_0f7a4_17 (by decide) ?_
    refine x_icmp_ge (pc := 19) hC 42 dJ6_stringSize_0f7a4_19 (by decide) (fun c6 => ?_) (fun c6 => ?_)
    · rw [if_pos c6] at h
      refine x_bipush (pc := 42) (v := (10 : Int32)) hC dJ6_stringSize_0f7a4_42 (by decide) ?_
      refine x_iload_n (pc := 44) hC 1 dJ6_stringSize_0f7a4_44 rfl rfl ?_
      refine x_iaddv (pc := 45) hC dJ6_stringSize_0f7a4_45 (fun x1 hx1 => ?_)
      replace h := lt_x hx1 h
      exact x_ireturn (pc := 46) hC hE dJ6_stringSize_0f7a4_46 (so h) (Nat.le_of_ble_eq_true rfl) (Nat.le_of_ble_eq_true rfl)
    · rw [if_neg c6] at h
      refine x_iload_n (pc := 22) hC 0 dJ6_stringSize_0f7a4_22 rfl rfl ?_
      refine x_iload_n (pc := 23) hC 2 dJ6_stringSize_0f7a4_23 rfl rfl ?_
      refine x_icmp_le (pc := 24) hC 31 dJ6_stringSize_0f7a4_24 (by decide) (fun c5 => ?_) (fun c5 => ?_)
      · rw [if_pos c5] at h
        refine x_bipush (pc := 31) (v := (10 : Int32)) hC dJ6_stringSize_0f7a4_31 (by decide) ?_
        refine x_iload_n (pc := 33) hC 2 dJ6_stringSize_0f7a4_33 rfl rfl ?_
        refine x_imulv (pc := 34) hC dJ6_stringSize_0f7a4_34 (fun x2 hx2 => ?_)
        replace h := lt_x hx2 h
        refine x_istore_n (pc := 35) hC dJ6_stringSize_0f7a4_35 rfl (by decide) (by decide) rfl ?_
        obtain ⟨x3, hx3⟩ : ∃ z, z = (a3 + Int32.ofInt (1)) := ⟨_, rfl⟩
        replace h := lt_x hx3 h
        refine x_iinc (pc := 36) hC 3 dJ6_stringSize_0f7a4_36 rfl hx3.symm (by decide) (by decide) rfl ?_
        refine x_goto (pc := 39) hC 16 dJ6_stringSize_0f7a4_39 (by decide) ?_
        refine x_pick [2, 3, 1, 0] rfl ?_
        exact ih _ _ _ _ _ h
      · rw [if_neg c5] at h
        refine x_iload_n (pc := 27) hC 3 dJ6_stringSize_0f7a4_27 rfl rfl ?_
        refine x_iload_n (pc := 28) hC 1 dJ6_stringSize_0f7a4_28 rfl rfl ?_
        refine x_iaddv (pc := 29) hC dJ6_stringSize_0f7a4_29 (fun x4 hx4 => ?_)
        replace h := lt_x hx4 h
        exact x_ireturn (pc := 30) hC hE dJ6_stringSize_0f7a4_30 (so h) (Nat.le_of_ble_eq_true rfl) (Nat.le_of_ble_eq_true rfl)
def f_J6_stringSize_0f7a4_11  (S : mS) (a0 : Int32) (a1 : Int32) : Option (Rs Int32) :=
  f_J6_stringSize_0f7a4_16  16 S a0 a1 (-10 : Int32) (1 : Int32)
set_option maxHeartbeats 2000000 in
set_option maxRecDepth 100000 in
theorem t_J6_stringSize_0f7a4_11 {l : Launch} (hls : l.stackTraces = false) {C : cT} (hC : CX C cJ6_stringSize_0f7a4 4 yJ6_stringSize_0f7a4 rm_J6_stringSize_0f7a4) (hl : C.2.1 = l) {S0 : mS} (hE : CE C S0 (Option.some Jvm.ClassFile.FieldType.int) []) {o : Rs Int32} {S : mS} {a0 : Int32} {a1 : Int32} (h : f_J6_stringSize_0f7a4_11  S a0 a1 = some o) : XX C 4 (QQ C (fun r : Int32 => some (.int r)) S0 o) (0) (0) S 11 [(0, .int a0), (1, .int a1)] [] := by
  unfold f_J6_stringSize_0f7a4_11 at h
  refine x_bipush (pc := 11) (v := (-10 : Int32)) hC dJ6_stringSize_0f7a4_11 (by decide) ?_
  refine x_istore_n (pc := 13) hC dJ6_stringSize_0f7a4_13 rfl (by decide) (by decide) rfl ?_
  refine x_iconst (pc := 14) (v := (1 : Int32)) hC dJ6_stringSize_0f7a4_14 (by decide) ?_
  refine x_istore_n (pc := 15) hC dJ6_stringSize_0f7a4_15 rfl (by decide) (by decide) rfl ?_
  refine x_pick [2, 3, 1, 0] rfl ?_
  exact t_J6_stringSize_0f7a4_16 hls hC hl hE 16 _ _ _ _ _ h
def f_J6_stringSize_0f7a4 (S : mS) (a0 : Int32) : Option (Rs Int32) :=
  if a0 < 0 then (f_J6_stringSize_0f7a4_11  S a0 (1 : Int32)) else (lt9 (-a0) fun x1 => none)
set_option maxHeartbeats 2000000 in
set_option maxRecDepth 100000 in
theorem t_J6_stringSize_0f7a4 {l : Launch} (hls : l.stackTraces = false) {C : cT} (hC : CX C cJ6_stringSize_0f7a4 4 yJ6_stringSize_0f7a4 rm_J6_stringSize_0f7a4) (hl : C.2.1 = l) {S0 : mS} (hE : CE C S0 (Option.some Jvm.ClassFile.FieldType.int) []) {o : Rs Int32} {S : mS} {a0 : Int32} (h : f_J6_stringSize_0f7a4 S a0 = some o) : XX C 4 (QQ C (fun r : Int32 => some (.int r)) S0 o) 0 0 S 0 [(0, .int a0)] [] := by
  unfold f_J6_stringSize_0f7a4 at h
  refine x_iconst (pc := 0) (v := (1 : Int32)) hC dJ6_stringSize_0f7a4_0 (by decide) ?_
  refine x_istore_n (pc := 1) hC dJ6_stringSize_0f7a4_1 rfl (by decide) (by decide) rfl ?_
  refine x_iload_n (pc := 2) hC 1 dJ6_stringSize_0f7a4_2 rfl rfl ?_
  refine x_if_lt (pc := 3) hC 11 dJ6_stringSize_0f7a4_3 (by decide) (fun c2 => ?_) (fun c2 => ?_)
  · rw [if_pos c2] at h
    refine x_pick [1, 0] rfl ?_
    exact t_J6_stringSize_0f7a4_11 hls hC hl hE h
  · rw [if_neg c2] at h
    refine x_iconst (pc := 6) (v := (0 : Int32)) hC dJ6_stringSize_0f7a4_6 (by decide) ?_
    refine x_istore_n (pc := 7) hC dJ6_stringSize_0f7a4_7 rfl (by decide) (by decide) rfl ?_
    refine x_iload_n (pc := 8) hC 1 dJ6_stringSize_0f7a4_8 rfl rfl ?_
    refine x_inegv (pc := 9) hC dJ6_stringSize_0f7a4_9 (fun x1 hx1 => ?_)
    replace h := lt_x hx1 h
    cases h
theorem c_J6_stringSize_0f7a4 (l : Launch) (hls : l.stackTraces = false) {S : mS} {a0 : Int32} {o : Rs Int32} (h : f_J6_stringSize_0f7a4 S a0 = some o) : CT (fun r : Int32 => some (.int r)) l yJ6_stringSize_0f7a4 (.code yJ6_stringSize_0f7a4 cJ6_stringSize_0f7a4 4 (Option.some Jvm.ClassFile.FieldType.int)) rm_J6_stringSize_0f7a4 S [.int a0] o := ct_of (by decide +kernel) hls (Nat.le_of_ble_eq_true rfl) (fun C hl hC hE => t_J6_stringSize_0f7a4 hls hC hl hE h)
abbrev rm_J5_append_c97b9 : Room := { frames := 9, cells := 0, slots := 0, locals := 173 }
def f_J5_append_c97b9 (S : mS) (a0 : Nat) (a1 : Int32) : Option (Rs Nat) :=
  gd (gK S a0 = 2) (lt9 (gI S a0 3) fun x2 => bd (f_J6_stringSize_0f7a4 S a1) fun x3 S4 => lt9 (x2 + x3) fun x7 => none)
set_option maxHeartbeats 2000000 in
set_option maxRecDepth 100000 in
theorem t_J5_append_c97b9 {l : Launch} (hls : l.stackTraces = false) {C : cT} (hC : CX C cJ5_append_c97b9 4 yJ5_append_c97b9 rm_J5_append_c97b9) (hl : C.2.1 = l) {S0 : mS} (hE : CE C S0 (Option.some (Jvm.ClassFile.FieldType.object "java/lang/AbstractStringBuilder")) []) {o : Rs Nat} {S : mS} {a0 : Nat} {a1 : Int32} (h : f_J5_append_c97b9 S a0 a1 = some o) : XX C 4 (QQ C (fun r : Nat => some (.ref r)) S0 o) 0 0 S 0 [(0, .ref a0), (1, .int a1)] [] := by
  unfold f_J5_append_c97b9 at h
  refine x_aload_n (pc := 0) hC 0 dJ5_append_c97b9_0 rfl rfl ?_
  obtain ⟨g1, h⟩ := gd_some h
  refine x_getIv (pc := 1) (k := 3) hC fc_2 fl_RJ5_79 dJ5_append_c97b9_1 rfl g1 (fun x2 hx2 => ?_)
  replace h := lt_x hx2 h
  refine x_istore_n (pc := 4) hC dJ5_append_c97b9_4 rfl (by decide) (by decide) rfl ?_
  refine x_iload_n (pc := 5) hC 0 dJ5_append_c97b9_5 rfl rfl ?_
  refine x_iload_n (pc := 6) hC 2 dJ5_append_c97b9_6 rfl rfl ?_
  obtain ⟨o5, ho5, h⟩ := bd_some h
  refine x_callS (pc := 7) (As := [.int a1]) (rest := [.int x2]) hC hl (c_J6_stringSize_0f7a4 l hls ho5) lk_RJ5_245 dJ5_append_c97b9_7 rfl rfl (Nat.le_of_ble_eq_true rfl) ⟨Nat.le_of_ble_eq_true rfl, Nat.le_of_ble_eq_true rfl⟩ ⟨(Nat.le_of_ble_eq_true rfl), (Nat.le_of_ble_eq_true rfl)⟩ ?_
  rcases o5 with ⟨x3 | E6, S4⟩
  · refine xk_i ?_
    replace h := bk_l h
    refine x_iaddv (pc := 10) hC dJ5_append_c97b9_10 (fun x7 hx7 => ?_)
    replace h := lt_x hx7 h
    refine x_istore_n (pc := 11) hC dJ5_append_c97b9_11 rfl (by decide) (by decide) rfl ?_
    refine x_aload_n (pc := 12) hC 2 dJ5_append_c97b9_12 rfl rfl ?_
    refine x_iload_n (pc := 13) hC 0 dJ5_append_c97b9_13 rfl rfl ?_
    cases h
  · exact xk_r (xt_out hC hE (bk_r h) (Nat.le_of_ble_eq_true rfl) (Nat.le_of_ble_eq_true rfl))
theorem c_J5_append_c97b9 (l : Launch) (hls : l.stackTraces = false) {S : mS} {a0 : Nat} {a1 : Int32} {o : Rs Nat} (h : f_J5_append_c97b9 S a0 a1 = some o) : CT (fun r : Nat => some (.ref r)) l yJ5_append_c97b9 (.code yJ5_append_c97b9 cJ5_append_c97b9 4 (Option.some (Jvm.ClassFile.FieldType.object "java/lang/AbstractStringBuilder"))) rm_J5_append_c97b9 S [.ref a0, .int a1] o := ct_of (by decide +kernel) hls (Nat.le_of_ble_eq_true rfl) (fun C hl hC hE => t_J5_append_c97b9 hls hC hl hE h)
abbrev rm_J5_getValue_6d5f1 : Room := { frames := 8, cells := 0, slots := 0, locals := 150 }
def f_J5_getValue_6d5f1 (S : mS) (a0 : Nat) : Option (Rs Nat) :=
  gd (gK S a0 = 2) (lt9 (gR S a0 0) fun r2 => some (.inl r2, S))
set_option maxHeartbeats 2000000 in
set_option maxRecDepth 100000 in
theorem t_J5_getValue_6d5f1 {l : Launch} (hls : l.stackTraces = false) {C : cT} (hC : CX C cJ5_getValue_6d5f1 1 yJ5_getValue_6d5f1 rm_J5_getValue_6d5f1) (hl : C.2.1 = l) {S0 : mS} (hE : CE C S0 (Option.some (Jvm.ClassFile.FieldType.array Jvm.ClassFile.FieldType.byte)) []) {o : Rs Nat} {S : mS} {a0 : Nat} (h : f_J5_getValue_6d5f1 S a0 = some o) : XX C 1 (QQ C (fun r : Nat => some (.ref r)) S0 o) 0 0 S 0 [(0, .ref a0)] [] := by
  unfold f_J5_getValue_6d5f1 at h
  refine x_aload_n (pc := 0) hC 0 dJ5_getValue_6d5f1_0 rfl rfl ?_
  obtain ⟨g1, h⟩ := gd_some h
  refine x_getRv (pc := 1) (k := 0) hC fc_2 fl_RJ5_15 dJ5_getValue_6d5f1_1 rfl g1 (fun r2 hr2 => ?_)
  replace h := lt_x hr2 h
  exact x_areturn (pc := 4) hC hE (Or.inr ⟨_, rfl⟩) dJ5_getValue_6d5f1_4 (so h) (Nat.le_of_ble_eq_true rfl) (Nat.le_of_ble_eq_true rfl)
theorem c_J5_getValue_6d5f1 (l : Launch) (hls : l.stackTraces = false) {S : mS} {a0 : Nat} {o : Rs Nat} (h : f_J5_getValue_6d5f1 S a0 = some o) : CT (fun r : Nat => some (.ref r)) l yJ5_getValue_6d5f1 (.code yJ5_getValue_6d5f1 cJ5_getValue_6d5f1 1 (Option.some (Jvm.ClassFile.FieldType.array Jvm.ClassFile.FieldType.byte))) rm_J5_getValue_6d5f1 S [.ref a0] o := ct_of (by decide +kernel) hls (Nat.le_of_ble_eq_true rfl) (fun C hl hC hE => t_J5_getValue_6d5f1 hls hC hl hE h)
abbrev rm_J5_isLatin1_aae02 : Room := { frames := 8, cells := 0, slots := 0, locals := 150 }
def f_J5_isLatin1_aae02 (S : mS) (a0 : Nat) : Option (Rs Int32) :=
  none
set_option maxHeartbeats 2000000 in
set_option maxRecDepth 100000 in
theorem t_J5_isLatin1_aae02 {l : Launch} (hls : l.stackTraces = false) {C : cT} (hC : CX C cJ5_isLatin1_aae02 1 yJ5_isLatin1_aae02 rm_J5_isLatin1_aae02) (hl : C.2.1 = l) {S0 : mS} (hE : CE C S0 (Option.some Jvm.ClassFile.FieldType.boolean) []) {o : Rs Int32} {S : mS} {a0 : Nat} (h : f_J5_isLatin1_aae02 S a0 = some o) : XX C 1 (QQ C (fun r : Int32 => some (.int r)) S0 o) 0 0 S 0 [(0, .ref a0)] [] := by
  unfold f_J5_isLatin1_aae02 at h
  cases h
theorem c_J5_isLatin1_aae02 (l : Launch) (hls : l.stackTraces = false) {S : mS} {a0 : Nat} {o : Rs Int32} (h : f_J5_isLatin1_aae02 S a0 = some o) : CT (fun r : Int32 => some (.int r)) l yJ5_isLatin1_aae02 (.code yJ5_isLatin1_aae02 cJ5_isLatin1_aae02 1 (Option.some Jvm.ClassFile.FieldType.boolean)) rm_J5_isLatin1_aae02 S [.ref a0] o := ct_of (by decide +kernel) hls (Nat.le_of_ble_eq_true rfl) (fun C hl hC hE => t_J5_isLatin1_aae02 hls hC hl hE h)
abbrev rm_J5_inflateIfNeededFor_a7421 : Room := { frames := 8, cells := 0, slots := 0, locals := 150 }
def f_J5_inflateIfNeededFor_a7421 (S : mS) (a0 : Nat) (a1 : Nat) : Option (Rs Unit) :=
  none
set_option maxHeartbeats 2000000 in
set_option maxRecDepth 100000 in
theorem t_J5_inflateIfNeededFor_a7421 {l : Launch} (hls : l.stackTraces = false) {C : cT} (hC : CX C cJ5_inflateIfNeededFor_a7421 2 yJ5_inflateIfNeededFor_a7421 rm_J5_inflateIfNeededFor_a7421) (hl : C.2.1 = l) {S0 : mS} (hE : CE C S0 (Option.none : Option Jvm.ClassFile.FieldType) []) {o : Rs Unit} {S : mS} {a0 : Nat} {a1 : Nat} (h : f_J5_inflateIfNeededFor_a7421 S a0 a1 = some o) : XX C 2 (QQ C (fun _ : Unit => none) S0 o) 0 0 S 0 [(0, .ref a0), (1, .ref a1)] [] := by
  unfold f_J5_inflateIfNeededFor_a7421 at h
  cases h
theorem c_J5_inflateIfNeededFor_a7421 (l : Launch) (hls : l.stackTraces = false) {S : mS} {a0 : Nat} {a1 : Nat} {o : Rs Unit} (h : f_J5_inflateIfNeededFor_a7421 S a0 a1 = some o) : CT (fun _ : Unit => none) l yJ5_inflateIfNeededFor_a7421 (.code yJ5_inflateIfNeededFor_a7421 cJ5_inflateIfNeededFor_a7421 2 (Option.none : Option Jvm.ClassFile.FieldType)) rm_J5_inflateIfNeededFor_a7421 S [.ref a0, .ref a1] o := ct_of (by decide +kernel) hls (Nat.le_of_ble_eq_true rfl) (fun C hl hC hE => t_J5_inflateIfNeededFor_a7421 hls hC hl hE h)
abbrev rm_J0_getBytes_840e7 : Room := { frames := 9, cells := 0, slots := 0, locals := 170 }
def f_J0_getBytes_840e7 (S : mS) (a0 : Nat) (a1 : Nat) (a2 : Int32) (a3 : Int32) : Option (Rs Unit) :=
  gd (gK S a0 = 1) (bd (f_J0_coder_7d493 S a0) fun x2 S3 => if x2 = a3 then (none) else (none))
set_option maxHeartbeats 2000000 in
set_option maxRecDepth 100000 in
theorem t_J0_getBytes_840e7 {l : Launch} (hls : l.stackTraces = false) {C : cT} (hC : CX C cJ0_getBytes_840e7 4 yJ0_getBytes_840e7 rm_J0_getBytes_840e7) (hl : C.2.1 = l) {S0 : mS} (hE : CE C S0 (Option.none : Option Jvm.ClassFile.FieldType) []) {o : Rs Unit} {S : mS} {a0 : Nat} {a1 : Nat} {a2 : Int32} {a3 : Int32} (h : f_J0_getBytes_840e7 S a0 a1 a2 a3 = some o) : XX C 4 (QQ C (fun _ : Unit => none) S0 o) 0 0 S 0 [(0, .ref a0), (1, .ref a1), (2, .int a2), (3, .int a3)] [] := by
  unfold f_J0_getBytes_840e7 at h
  refine x_aload_n (pc := 0) hC 0 dJ0_getBytes_840e7_0 rfl rfl ?_
  obtain ⟨g1, h⟩ := gd_some h
  obtain ⟨o4, ho4, h⟩ := bd_some h
  refine x_callV (pc := 1) (As := []) (rest := []) hC hl (c_J0_coder_7d493 l hls ho4) lk_RJ0_335 fc_1 g1 dJ0_getBytes_840e7_1 rfl rfl (Nat.le_of_ble_eq_true rfl) ⟨Nat.le_of_ble_eq_true rfl, Nat.le_of_ble_eq_true rfl⟩ ⟨(Nat.le_of_ble_eq_true rfl), (Nat.le_of_ble_eq_true rfl)⟩ ?_
  rcases o4 with ⟨x2 | E5, S3⟩
  · refine xk_i ?_
    replace h := bk_l h
    refine x_iload_n (pc := 4) hC 3 dJ0_getBytes_840e7_4 rfl rfl ?_
    refine x_icmp_ne (pc := 5) hC 28 dJ0_getBytes_840e7_5 (by decide) (fun c6 => ?_) (fun c6 => ?_)
    · rw [if_neg c6] at h
      refine x_aload_n (pc := 28) hC 0 dJ0_getBytes_840e7_28 rfl rfl ?_
      cases h
    · rw [if_pos c6] at h
      refine x_aload_n (pc := 8) hC 0 dJ0_getBytes_840e7_8 rfl rfl ?_
      cases h
  · exact xk_r (xt_out hC hE (bk_r h) (Nat.le_of_ble_eq_true rfl) (Nat.le_of_ble_eq_true rfl))
theorem c_J0_getBytes_840e7 (l : Launch) (hls : l.stackTraces = false) {S : mS} {a0 : Nat} {a1 : Nat} {a2 : Int32} {a3 : Int32} {o : Rs Unit} (h : f_J0_getBytes_840e7 S a0 a1 a2 a3 = some o) : CT (fun _ : Unit => none) l yJ0_getBytes_840e7 (.code yJ0_getBytes_840e7 cJ0_getBytes_840e7 4 (Option.none : Option Jvm.ClassFile.FieldType)) rm_J0_getBytes_840e7 S [.ref a0, .ref a1, .int a2, .int a3] o := ct_of (by decide +kernel) hls (Nat.le_of_ble_eq_true rfl) (fun C hl hC hE => t_J0_getBytes_840e7 hls hC hl hE h)
abbrev rm_J5_putStringAt_47b60 : Room := { frames := 8, cells := 0, slots := 0, locals := 150 }
def f_J5_putStringAt_47b60 (S : mS) (a0 : Nat) (a1 : Int32) (a2 : Nat) : Option (Rs Unit) :=
  none
set_option maxHeartbeats 2000000 in
set_option maxRecDepth 100000 in
theorem t_J5_putStringAt_47b60 {l : Launch} (hls : l.stackTraces = false) {C : cT} (hC : CX C cJ5_putStringAt_47b60 3 yJ5_putStringAt_47b60 rm_J5_putStringAt_47b60) (hl : C.2.1 = l) {S0 : mS} (hE : CE C S0 (Option.none : Option Jvm.ClassFile.FieldType) []) {o : Rs Unit} {S : mS} {a0 : Nat} {a1 : Int32} {a2 : Nat} (h : f_J5_putStringAt_47b60 S a0 a1 a2 = some o) : XX C 3 (QQ C (fun _ : Unit => none) S0 o) 0 0 S 0 [(0, .ref a0), (1, .int a1), (2, .ref a2)] [] := by
  unfold f_J5_putStringAt_47b60 at h
  refine x_aload_n (pc := 0) hC 0 dJ5_putStringAt_47b60_0 rfl rfl ?_
  refine x_aload_n (pc := 1) hC 2 dJ5_putStringAt_47b60_1 rfl rfl ?_
  cases h
theorem c_J5_putStringAt_47b60 (l : Launch) (hls : l.stackTraces = false) {S : mS} {a0 : Nat} {a1 : Int32} {a2 : Nat} {o : Rs Unit} (h : f_J5_putStringAt_47b60 S a0 a1 a2 = some o) : CT (fun _ : Unit => none) l yJ5_putStringAt_47b60 (.code yJ5_putStringAt_47b60 cJ5_putStringAt_47b60 3 (Option.none : Option Jvm.ClassFile.FieldType)) rm_J5_putStringAt_47b60 S [.ref a0, .int a1, .ref a2] o := ct_of (by decide +kernel) hls (Nat.le_of_ble_eq_true rfl) (fun C hl hC hE => t_J5_putStringAt_47b60 hls hC hl hE h)
abbrev rm_Jx00060_init_a7421 : Room := { frames := 8, cells := 0, slots := 0, locals := 150 }
def f_Jx00060_init_a7421 (S : mS) (a0 : Nat) (a1 : Nat) : Option (Rs Unit) :=
  none
set_option maxHeartbeats 2000000 in
set_option maxRecDepth 100000 in
theorem t_Jx00060_init_a7421 {l : Launch} (hls : l.stackTraces = false) {C : cT} (hC : CX C cJx00060_init_a7421 2 yJx00060_init_a7421 rm_Jx00060_init_a7421) (hl : C.2.1 = l) {S0 : mS} (hE : CE C S0 (Option.none : Option Jvm.ClassFile.FieldType) []) {o : Rs Unit} {S : mS} {a0 : Nat} {a1 : Nat} (h : f_Jx00060_init_a7421 S a0 a1 = some o) : XX C 2 (QQ C (fun _ : Unit => none) S0 o) 0 0 S 0 [(0, .ref a0), (1, .ref a1)] [] := by
  unfold f_Jx00060_init_a7421 at h
  refine x_aload_n (pc := 0) hC 0 dJx00060_init_a7421_0 rfl rfl ?_
  refine x_aload_n (pc := 1) hC 1 dJx00060_init_a7421_1 rfl rfl ?_
  cases h
theorem c_Jx00060_init_a7421 (l : Launch) (hls : l.stackTraces = false) {S : mS} {a0 : Nat} {a1 : Nat} {o : Rs Unit} (h : f_Jx00060_init_a7421 S a0 a1 = some o) : CT (fun _ : Unit => none) l yJx00060_init_a7421 (.code yJx00060_init_a7421 cJx00060_init_a7421 2 (Option.none : Option Jvm.ClassFile.FieldType)) rm_Jx00060_init_a7421 S [.ref a0, .ref a1] o := ct_of (by decide +kernel) hls (Nat.le_of_ble_eq_true rfl) (fun C hl hC hE => t_Jx00060_init_a7421 hls hC hl hE h)
abbrev rm_J4_length_8abf5 : Room := { frames := 8, cells := 0, slots := 0, locals := 150 }
def f_J4_length_8abf5 (S : mS) (a0 : Nat) : Option (Rs Int32) :=
  none
set_option maxHeartbeats 2000000 in
set_option maxRecDepth 100000 in
theorem t_J4_length_8abf5 {l : Launch} (hls : l.stackTraces = false) {C : cT} (hC : CX C cJ4_length_8abf5 1 yJ4_length_8abf5 rm_J4_length_8abf5) (hl : C.2.1 = l) {S0 : mS} (hE : CE C S0 (Option.some Jvm.ClassFile.FieldType.int) []) {o : Rs Int32} {S : mS} {a0 : Nat} (h : f_J4_length_8abf5 S a0 = some o) : XX C 1 (QQ C (fun r : Int32 => some (.int r)) S0 o) 0 0 S 0 [(0, .ref a0)] [] := by
  unfold f_J4_length_8abf5 at h
  refine x_aload_n (pc := 0) hC 0 dJ4_length_8abf5_0 rfl rfl ?_
  cases h
theorem c_J4_length_8abf5 (l : Launch) (hls : l.stackTraces = false) {S : mS} {a0 : Nat} {o : Rs Int32} (h : f_J4_length_8abf5 S a0 = some o) : CT (fun r : Int32 => some (.int r)) l yJ4_length_8abf5 (.code yJ4_length_8abf5 cJ4_length_8abf5 1 (Option.some Jvm.ClassFile.FieldType.int)) rm_J4_length_8abf5 S [.ref a0] o := ct_of (by decide +kernel) hls (Nat.le_of_ble_eq_true rfl) (fun C hl hC hE => t_J4_length_8abf5 hls hC hl hE h)
end P19JDK
