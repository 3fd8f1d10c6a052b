section WDEF
def wt : List Cond := lw_tbl.filter goodWord
theorem wt_of {w : Cond} (i : Nat) (h : lw_tbl[i]? = some w) (hg : goodWord w = true) : w ∈ wt := List.mem_filter.mpr ⟨List.mem_of_getElem? h, hg⟩
theorem wt_good {w : Cond} (h : w ∈ wt) : (w.onTables && w.keeps) = true ∨ ∃ ty, w = .arrayClass ty := good_of_word (List.mem_filter.mp h).2
theorem wt_tbl {w : Cond} (h : w ∈ wt) : w ∈ lw_tbl := (List.mem_filter.mp h).1
def nwd : Cond → Bool
  | .fieldLinkNest .. => true
  | .methodLinkNest .. => true
  | .arrayOver (.object _) => true
  | w => w.faceAtom
def wn : List Cond := lw_tbl.filter nwd
theorem wn_of {w : Cond} (i : Nat) (h : lw_tbl[i]? = some w) (hg : nwd w = true) : w ∈ wn := List.mem_filter.mpr ⟨List.mem_of_getElem? h, hg⟩
theorem face_tabs {w : Cond} (h : w.faceAtom = true) : w.onTables = true := by
  cases w <;> first | rfl | (simp [Cond.faceAtom] at h)
theorem nwd_use {w : Cond} {U : State} {A B : Array Value} (h : nwd w = true) (hb : w.before A U = true) : w.before B U = true := by
  cases w with
  | fieldLinkNest a b c d e f => exact va_tabs rfl rfl hb
  | methodLinkNest a b c d => exact va_tabs rfl rfl hb
  | arrayOver ty => exact hb
  | declares a => exact va_tabs (face_tabs (w := .declares a) h) rfl hb
  | publicMethod a => exact va_tabs (face_tabs (w := .publicMethod a) h) rfl hb
  | privateMethod a => exact va_tabs (face_tabs (w := .privateMethod a) h) rfl hb
  | unhidden a b d => exact va_tabs (face_tabs (w := .unhidden a b d) h) rfl hb
  | castable a b => exact va_tabs (face_tabs (w := .castable a b) h) rfl hb
  | interfaceMethod a b d e => exact va_tabs (face_tabs (w := .interfaceMethod a b d e) h) rfl hb
  | _ => simp [nwd, Cond.faceAtom] at h
theorem nwd_moved {w : Cond} {s U : State} (h : nwd w = true) (hW : s.WarmedH U.vm) (hb : w.before #[] s = true) : w.before #[] U = true := by
  have face : w.faceAtom = true → w.before #[] U = true := fun hf => va_tabs (face_tabs hf) (rfl : (s.setVm U.vm).vm = U.vm) (Cond.faceAtom_setVm hW.alike w hf hb)
  cases w with
  | fieldLinkNest a b c d e f => exact va_Nw.warmF hW hb
  | methodLinkNest a b c d => exact va_Nw.warmM hW hb
  | arrayOver ty =>
    cases ty with
    | object C => exact va_AO.moved hW.alike hb
    | _ => simp [nwd, Cond.faceAtom] at h
  | declares a => exact face h
  | publicMethod a => exact face h
  | privateMethod a => exact face h
  | unhidden a b d => exact face h
  | castable a b => exact face h
  | interfaceMethod a b d e => exact face h
  | _ => simp [nwd, Cond.faceAtom] at h
end WDEF
