/-! The protocol: what holds of one deal -/
structure Ph (st rs : Int32) (pr h3 s3 h4 h7 h5 h6 h15 cn pz : Prop) : Prop where
  a : st = 0 ∨ st = 1 ∨ st = 2 ∨ st = 10 → cn
  b : ¬ cn → pr
  c : st = 3 ∨ st = 4 ∨ st = 5 ∨ st = 6 ∨ st = 7 ∨ st = 8 → ¬ cn
  d : pr → rs = 3 ∨ rs = 4 ∨ rs = 5 ∨ rs = 6 → ¬ cn
  e : h7 → ¬ cn
  f : h4 → st = 10
  g : ¬ pr → st = 10 ∨ st = 11 ∨ (st = 2 ∧ ¬ h5)
  h : pr → rs = 1 → s3 ∧ ¬ h5
  i : h5 → s3
  j : pr → h6 → rs = 9
  k : pr → h15 → ¬ (rs = 0 ∨ rs = 1 ∨ rs = 2)
  l : h3 → ¬ h5 → ¬ h6 → ¬ h15 → st = 2
  m : s3 → h3
  n : h3 → ¬ pz
section PH
variable {st rs : Int32} {pr h3 s3 h4 h7 h5 h6 h15 cn pz : Prop} (H : Ph st rs pr h3 s3 h4 h7 h5 h6 h15 cn pz)
include H

theorem Ph.accept (hp : pr) (h1 : rs = 1) : Ph st 0 pr h3 s3 h4 h7 True h6 h15 cn pz := by
  obtain ⟨a, b, c, d, e, f, g, h, i, j, k, l, m, n⟩ := H
  constructor <;> grind

theorem Ph.cancel (hp : pr) (h1 : rs = 0 ∨ rs = 1 ∨ rs = 2) : Ph st 10 pr h3 s3 h4 h7 h5 h6 True cn pz := by
  obtain ⟨a, b, c, d, e, f, g, h, i, j, k, l, m, n⟩ := H
  constructor <;> grind

theorem Ph.receive (hp : pr) (h1 : rs = 3) : Ph st 4 pr h3 s3 h4 h7 h5 h6 h15 cn pz := by
  obtain ⟨a, b, c, d, e, f, g, h, i, j, k, l, m, n⟩ := H
  constructor <;> grind

theorem Ph.renew (hp : pr) (h1 : rs = 4) : Ph st 5 pr h3 s3 h4 h7 h5 h6 h15 cn pz := by
  obtain ⟨a, b, c, d, e, f, g, h, i, j, k, l, m, n⟩ := H
  constructor <;> grind

theorem Ph.back {v : Int32} (hv : v = 7 ∨ v = 12) (h1 : rs = 4 ∨ rs = 5 ∨ rs = 6) : Ph st v pr h3 s3 h4 h7 h5 h6 h15 cn pz := by
  obtain ⟨a, b, c, d, e, f, g, h, i, j, k, l, m, n⟩ := H
  constructor <;> grind

theorem Ph.declineEnd (hp : pr) (h1 : rs = 1) : Ph st 9 pr h3 s3 h4 h7 h5 True h15 cn pz := by
  obtain ⟨a, b, c, d, e, f, g, h, i, j, k, l, m, n⟩ := H
  constructor <;> grind

theorem Ph.declineNext {rs2 : Int32} (hp : pr) (h1 : rs = 1) : Ph st rs2 False h3 s3 h4 h7 h5 True h15 cn pz := by
  obtain ⟨a, b, c, d, e, f, g, h, i, j, k, l, m, n⟩ := H
  constructor <;> grind

theorem Ph.promise (h1 : st = 1) : Ph 3 rs pr h3 s3 h4 h7 h5 h6 h15 False pz := by
  obtain ⟨a, b, c, d, e, f, g, h, i, j, k, l, m, n⟩ := H
  constructor <;> grind

theorem Ph.offer (h1 : st = 1) : Ph 2 rs pr True s3 h4 h7 h5 h6 h15 cn False := by
  obtain ⟨a, b, c, d, e, f, g, h, i, j, k, l, m, n⟩ := H
  constructor <;> grind

theorem Ph.refuse (h1 : st = 1) : Ph 10 rs pr h3 s3 True h7 h5 h6 h15 cn pz := by
  obtain ⟨a, b, c, d, e, f, g, h, i, j, k, l, m, n⟩ := H
  constructor <;> grind

theorem Ph.ship (h1 : st = 3) : Ph 4 rs pr h3 s3 h4 True h5 h6 h15 cn pz := by
  obtain ⟨a, b, c, d, e, f, g, h, i, j, k, l, m, n⟩ := H
  constructor <;> grind

theorem Ph.renewed (h1 : st = 6) : Ph 5 rs pr h3 s3 h4 h7 h5 h6 h15 cn pz := by
  obtain ⟨a, b, c, d, e, f, g, h, i, j, k, l, m, n⟩ := H
  constructor <;> grind

theorem Ph.recall (h1 : st = 5 ∨ st = 6) : Ph 7 rs pr h3 s3 h4 h7 h5 h6 h15 cn pz := by
  obtain ⟨a, b, c, d, e, f, g, h, i, j, k, l, m, n⟩ := H
  constructor <;> grind

theorem Ph.checkIn (h1 : st = 8) : Ph 9 rs pr h3 s3 h4 h7 h5 h6 h15 cn pz := by
  obtain ⟨a, b, c, d, e, f, g, h, i, j, k, l, m, n⟩ := H
  constructor <;> grind

theorem Ph.t1 (h1 : st = 0) : Ph 1 rs pr h3 s3 h4 h7 h5 h6 h15 cn pz := by
  obtain ⟨a, b, c, d, e, f, g, h, i, j, k, l, m, n⟩ := H
  constructor <;> grind

theorem Ph.t5 (h9 : h5) (h1 : st = 2) : Ph 1 rs pr h3 s3 h4 h7 h5 h6 h15 cn pz := by
  obtain ⟨a, b, c, d, e, f, g, h, i, j, k, l, m, n⟩ := H
  constructor <;> grind

theorem Ph.t6 (h9 : h6) (h1 : st = 2) : Ph 10 rs pr h3 s3 h4 h7 h5 h6 h15 cn pz := by
  obtain ⟨a, b, c, d, e, f, g, h, i, j, k, l, m, n⟩ := H
  constructor <;> grind

theorem Ph.t8 (h1 : st = 4) : Ph 5 rs pr h3 s3 h4 h7 h5 h6 h15 cn pz := by
  obtain ⟨a, b, c, d, e, f, g, h, i, j, k, l, m, n⟩ := H
  constructor <;> grind

theorem Ph.t9 (h1 : st = 5) : Ph 6 rs pr h3 s3 h4 h7 h5 h6 h15 cn pz := by
  obtain ⟨a, b, c, d, e, f, g, h, i, j, k, l, m, n⟩ := H
  constructor <;> grind

theorem Ph.tout {v : Int32} (hv : v = 8 ∨ v = 12) (h1 : st = 5 ∨ st = 6 ∨ st = 7) : Ph v rs pr h3 s3 h4 h7 h5 h6 h15 cn pz := by
  obtain ⟨a, b, c, d, e, f, g, h, i, j, k, l, m, n⟩ := H
  constructor <;> grind

theorem Ph.t15 (h9 : h15) (h1 : st = 1 ∨ st = 2 ∨ st = 3) : Ph 11 rs pr h3 s3 h4 h7 h5 h6 h15 cn pz := by
  obtain ⟨a, b, c, d, e, f, g, h, i, j, k, l, m, n⟩ := H
  constructor <;> grind

theorem Ph.u7 (hp : pr) (h9 : h7) (h1 : rs = 2 ∨ rs = 10) : Ph st 3 pr h3 s3 h4 h7 h5 h6 h15 cn pz := by
  obtain ⟨a, b, c, d, e, f, g, h, i, j, k, l, m, n⟩ := H
  constructor <;> grind

theorem Ph.u10 (hp : pr) (h1 : rs = 5) : Ph st 4 pr h3 s3 h4 h7 h5 h6 h15 cn pz := by
  obtain ⟨a, b, c, d, e, f, g, h, i, j, k, l, m, n⟩ := H
  constructor <;> grind

theorem Ph.u11 (hp : pr) (h1 : rs = 4 ∨ rs = 5) : Ph st 6 pr h3 s3 h4 h7 h5 h6 h15 cn pz := by
  obtain ⟨a, b, c, d, e, f, g, h, i, j, k, l, m, n⟩ := H
  constructor <;> grind

theorem Ph.u2 (hp : pr) (h1 : rs = 0) : Ph st 2 pr h3 s3 h4 h7 h5 h6 h15 cn pz := by
  obtain ⟨a, b, c, d, e, f, g, h, i, j, k, l, m, n⟩ := H
  constructor <;> grind

theorem Ph.u3 (hp : pr) (hh : h3) (hs : ¬ s3) (h1 : rs = 0) : Ph st 1 pr h3 True h4 h7 h5 h6 h15 cn pz := by
  obtain ⟨a, b, c, d, e, f, g, h, i, j, k, l, m, n⟩ := H
  constructor <;> grind

theorem Ph.u3n (hh : h3) : Ph st rs pr h3 True h4 h7 h5 h6 h15 cn pz := by
  obtain ⟨a, b, c, d, e, f, g, h, i, j, k, l, m, n⟩ := H
  constructor <;> grind

theorem Ph.u4 (hp : pr) (h1 : rs = 10) : Ph st 11 pr h3 s3 h4 h7 h5 h6 h15 cn pz := by
  obtain ⟨a, b, c, d, e, f, g, h, i, j, k, l, m, n⟩ := H
  constructor <;> grind

theorem Ph.u13 (hp : pr) (h1 : rs = 7) : Ph st 8 pr h3 s3 h4 h7 h5 h6 h15 cn pz := by
  obtain ⟨a, b, c, d, e, f, g, h, i, j, k, l, m, n⟩ := H
  constructor <;> grind

theorem Ph.u4End (hp : pr) (h9 : h4) (h1 : rs = 0) : Ph st 9 pr h3 s3 h4 h7 h5 h6 h15 cn pz := by
  obtain ⟨a, b, c, d, e, f, g, h, i, j, k, l, m, n⟩ := H
  constructor <;> grind

theorem Ph.u4Next {rs2 : Int32} (hp : pr) (h9 : h4) (h1 : rs = 0) : Ph st rs2 False h3 s3 h4 h7 h5 h6 h15 cn pz := by
  obtain ⟨a, b, c, d, e, f, g, h, i, j, k, l, m, n⟩ := H
  constructor <;> grind

theorem Ph.other {rs2 : Int32} (hp : ¬ pr) : Ph st rs2 pr h3 s3 h4 h7 h5 h6 h15 cn pz := by
  obtain ⟨a, b, c, d, e, f, g, h, i, j, k, l, m, n⟩ := H
  constructor <;> grind

end PH
theorem Ph.fresh {rs : Int32} (hr : rs = 0) : Ph 0 rs True False False False False False False False True True := by
  subst hr
  constructor <;> simp
