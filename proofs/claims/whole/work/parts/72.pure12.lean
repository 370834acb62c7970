/-! The protocol: what holds of one deal -/
def Ph (st rs : Int32) (pr h3 s3 h4 h7 h5 h6 h15 cn pz : Prop) : Prop :=
  (st = 0 ∨ st = 1 ∨ st = 2 ∨ st = 10 → cn) ∧
  (¬ cn → pr) ∧
  (st = 3 ∨ st = 4 ∨ st = 5 ∨ st = 6 ∨ st = 7 ∨ st = 8 → ¬ cn) ∧
  (pr → rs = 3 ∨ rs = 4 ∨ rs = 5 ∨ rs = 6 → ¬ cn) ∧
  (h7 → ¬ cn) ∧
  (h4 → st = 10) ∧
  (¬ pr → st = 10 ∨ st = 11 ∨ (st = 2 ∧ ¬ h5)) ∧
  (pr → rs = 1 → s3 ∧ ¬ h5) ∧
  (h5 → s3) ∧
  (pr → h6 → rs = 9) ∧
  (pr → h15 → ¬ (rs = 0 ∨ rs = 1 ∨ rs = 2)) ∧
  (h3 → ¬ h5 → ¬ h6 → ¬ h15 → st = 2) ∧
  (s3 → h3) ∧
  (h3 → ¬ pz)
theorem Ph.a {st rs : Int32} {pr h3 s3 h4 h7 h5 h6 h15 cn pz : Prop} (h9 : Ph st rs pr h3 s3 h4 h7 h5 h6 h15 cn pz) : st = 0 ∨ st = 1 ∨ st = 2 ∨ st = 10 → cn := h9.1
theorem Ph.b {st rs : Int32} {pr h3 s3 h4 h7 h5 h6 h15 cn pz : Prop} (h9 : Ph st rs pr h3 s3 h4 h7 h5 h6 h15 cn pz) : ¬ cn → pr := h9.2.1
theorem Ph.c {st rs : Int32} {pr h3 s3 h4 h7 h5 h6 h15 cn pz : Prop} (h9 : Ph st rs pr h3 s3 h4 h7 h5 h6 h15 cn pz) : st = 3 ∨ st = 4 ∨ st = 5 ∨ st = 6 ∨ st = 7 ∨ st = 8 → ¬ cn := h9.2.2.1
theorem Ph.d {st rs : Int32} {pr h3 s3 h4 h7 h5 h6 h15 cn pz : Prop} (h9 : Ph st rs pr h3 s3 h4 h7 h5 h6 h15 cn pz) : pr → rs = 3 ∨ rs = 4 ∨ rs = 5 ∨ rs = 6 → ¬ cn := h9.2.2.2.1
theorem Ph.e {st rs : Int32} {pr h3 s3 h4 h7 h5 h6 h15 cn pz : Prop} (h9 : Ph st rs pr h3 s3 h4 h7 h5 h6 h15 cn pz) : h7 → ¬ cn := h9.2.2.2.2.1
theorem Ph.f {st rs : Int32} {pr h3 s3 h4 h7 h5 h6 h15 cn pz : Prop} (h9 : Ph st rs pr h3 s3 h4 h7 h5 h6 h15 cn pz) : h4 → st = 10 := h9.2.2.2.2.2.1
theorem Ph.g {st rs : Int32} {pr h3 s3 h4 h7 h5 h6 h15 cn pz : Prop} (h9 : Ph st rs pr h3 s3 h4 h7 h5 h6 h15 cn pz) : ¬ pr → st = 10 ∨ st = 11 ∨ (st = 2 ∧ ¬ h5) := h9.2.2.2.2.2.2.1
theorem Ph.h {st rs : Int32} {pr h3 s3 h4 h7 h5 h6 h15 cn pz : Prop} (h9 : Ph st rs pr h3 s3 h4 h7 h5 h6 h15 cn pz) : pr → rs = 1 → s3 ∧ ¬ h5 := h9.2.2.2.2.2.2.2.1
theorem Ph.i {st rs : Int32} {pr h3 s3 h4 h7 h5 h6 h15 cn pz : Prop} (h9 : Ph st rs pr h3 s3 h4 h7 h5 h6 h15 cn pz) : h5 → s3 := h9.2.2.2.2.2.2.2.2.1
theorem Ph.j {st rs : Int32} {pr h3 s3 h4 h7 h5 h6 h15 cn pz : Prop} (h9 : Ph st rs pr h3 s3 h4 h7 h5 h6 h15 cn pz) : pr → h6 → rs = 9 := h9.2.2.2.2.2.2.2.2.2.1
theorem Ph.k {st rs : Int32} {pr h3 s3 h4 h7 h5 h6 h15 cn pz : Prop} (h9 : Ph st rs pr h3 s3 h4 h7 h5 h6 h15 cn pz) : pr → h15 → ¬ (rs = 0 ∨ rs = 1 ∨ rs = 2) := h9.2.2.2.2.2.2.2.2.2.2.1
theorem Ph.l {st rs : Int32} {pr h3 s3 h4 h7 h5 h6 h15 cn pz : Prop} (h9 : Ph st rs pr h3 s3 h4 h7 h5 h6 h15 cn pz) : h3 → ¬ h5 → ¬ h6 → ¬ h15 → st = 2 := h9.2.2.2.2.2.2.2.2.2.2.2.1
theorem Ph.m {st rs : Int32} {pr h3 s3 h4 h7 h5 h6 h15 cn pz : Prop} (h9 : Ph st rs pr h3 s3 h4 h7 h5 h6 h15 cn pz) : s3 → h3 := h9.2.2.2.2.2.2.2.2.2.2.2.2.1
theorem Ph.n {st rs : Int32} {pr h3 s3 h4 h7 h5 h6 h15 cn pz : Prop} (h9 : Ph st rs pr h3 s3 h4 h7 h5 h6 h15 cn pz) : h3 → ¬ pz := h9.2.2.2.2.2.2.2.2.2.2.2.2.2

theorem Ph.accept {st rs : Int32} {pr h3 s3 h4 h7 h5 h6 h15 cn pz : Prop} (H : Ph st rs pr h3 s3 h4 h7 h5 h6 h15 cn pz) (hp : pr) (h1 : rs = 1) : Ph st 0 pr h3 s3 h4 h7 True h6 h15 cn pz := by
  obtain ⟨a, b, c, d, e, f, g, h, i, j, k, l, m, n⟩ := H
  refine ⟨?_, ?_, ?_, ?_, ?_, ?_, ?_, ?_, ?_, ?_, ?_, ?_, ?_, ?_⟩ <;> grind

theorem Ph.cancel {st rs : Int32} {pr h3 s3 h4 h7 h5 h6 h15 cn pz : Prop} (H : Ph st rs pr h3 s3 h4 h7 h5 h6 h15 cn pz) (hp : pr) (h1 : rs = 0 ∨ rs = 1 ∨ rs = 2) : Ph st 10 pr h3 s3 h4 h7 h5 h6 True cn pz := by
  obtain ⟨a, b, c, d, e, f, g, h, i, j, k, l, m, n⟩ := H
  refine ⟨?_, ?_, ?_, ?_, ?_, ?_, ?_, ?_, ?_, ?_, ?_, ?_, ?_, ?_⟩ <;> grind

theorem Ph.receive {st rs : Int32} {pr h3 s3 h4 h7 h5 h6 h15 cn pz : Prop} (H : Ph st rs pr h3 s3 h4 h7 h5 h6 h15 cn pz) (hp : pr) (h1 : rs = 3) : Ph st 4 pr h3 s3 h4 h7 h5 h6 h15 cn pz := by
  obtain ⟨a, b, c, d, e, f, g, h, i, j, k, l, m, n⟩ := H
  refine ⟨?_, ?_, ?_, ?_, ?_, ?_, ?_, ?_, ?_, ?_, ?_, ?_, ?_, ?_⟩ <;> grind

theorem Ph.renew {st rs : Int32} {pr h3 s3 h4 h7 h5 h6 h15 cn pz : Prop} (H : Ph st rs pr h3 s3 h4 h7 h5 h6 h15 cn pz) (hp : pr) (h1 : rs = 4) : Ph st 5 pr h3 s3 h4 h7 h5 h6 h15 cn pz := by
  obtain ⟨a, b, c, d, e, f, g, h, i, j, k, l, m, n⟩ := H
  refine ⟨?_, ?_, ?_, ?_, ?_, ?_, ?_, ?_, ?_, ?_, ?_, ?_, ?_, ?_⟩ <;> grind

theorem Ph.back {st rs : Int32} {pr h3 s3 h4 h7 h5 h6 h15 cn pz : Prop} (H : Ph st rs pr h3 s3 h4 h7 h5 h6 h15 cn pz) {v : Int32} (hv : v = 7 ∨ v = 12) (h1 : rs = 4 ∨ rs = 5 ∨ rs = 6) : Ph st v pr h3 s3 h4 h7 h5 h6 h15 cn pz := by
  obtain ⟨a, b, c, d, e, f, g, h, i, j, k, l, m, n⟩ := H
  refine ⟨?_, ?_, ?_, ?_, ?_, ?_, ?_, ?_, ?_, ?_, ?_, ?_, ?_, ?_⟩ <;> grind

theorem Ph.declineEnd {st rs : Int32} {pr h3 s3 h4 h7 h5 h6 h15 cn pz : Prop} (H : Ph st rs pr h3 s3 h4 h7 h5 h6 h15 cn pz) (hp : pr) (h1 : rs = 1) : Ph st 9 pr h3 s3 h4 h7 h5 True h15 cn pz := by
  obtain ⟨a, b, c, d, e, f, g, h, i, j, k, l, m, n⟩ := H
  refine ⟨?_, ?_, ?_, ?_, ?_, ?_, ?_, ?_, ?_, ?_, ?_, ?_, ?_, ?_⟩ <;> grind

theorem Ph.declineNext {st rs : Int32} {pr h3 s3 h4 h7 h5 h6 h15 cn pz : Prop} (H : Ph st rs pr h3 s3 h4 h7 h5 h6 h15 cn pz) {rs2 : Int32} (hp : pr) (h1 : rs = 1) : Ph st rs2 False h3 s3 h4 h7 h5 True h15 cn pz := by
  obtain ⟨a, b, c, d, e, f, g, h, i, j, k, l, m, n⟩ := H
  refine ⟨?_, ?_, ?_, ?_, ?_, ?_, ?_, ?_, ?_, ?_, ?_, ?_, ?_, ?_⟩ <;> grind

theorem Ph.promise {st rs : Int32} {pr h3 s3 h4 h7 h5 h6 h15 cn pz : Prop} (H : Ph st rs pr h3 s3 h4 h7 h5 h6 h15 cn pz) (h1 : st = 1) : Ph 3 rs pr h3 s3 h4 h7 h5 h6 h15 False pz := by
  obtain ⟨a, b, c, d, e, f, g, h, i, j, k, l, m, n⟩ := H
  refine ⟨?_, ?_, ?_, ?_, ?_, ?_, ?_, ?_, ?_, ?_, ?_, ?_, ?_, ?_⟩ <;> grind

theorem Ph.offer {st rs : Int32} {pr h3 s3 h4 h7 h5 h6 h15 cn pz : Prop} (H : Ph st rs pr h3 s3 h4 h7 h5 h6 h15 cn pz) (h1 : st = 1) : Ph 2 rs pr True s3 h4 h7 h5 h6 h15 cn False := by
  obtain ⟨a, b, c, d, e, f, g, h, i, j, k, l, m, n⟩ := H
  refine ⟨?_, ?_, ?_, ?_, ?_, ?_, ?_, ?_, ?_, ?_, ?_, ?_, ?_, ?_⟩ <;> grind

theorem Ph.refuse {st rs : Int32} {pr h3 s3 h4 h7 h5 h6 h15 cn pz : Prop} (H : Ph st rs pr h3 s3 h4 h7 h5 h6 h15 cn pz) (h1 : st = 1) : Ph 10 rs pr h3 s3 True h7 h5 h6 h15 cn pz := by
  obtain ⟨a, b, c, d, e, f, g, h, i, j, k, l, m, n⟩ := H
  refine ⟨?_, ?_, ?_, ?_, ?_, ?_, ?_, ?_, ?_, ?_, ?_, ?_, ?_, ?_⟩ <;> grind

theorem Ph.ship {st rs : Int32} {pr h3 s3 h4 h7 h5 h6 h15 cn pz : Prop} (H : Ph st rs pr h3 s3 h4 h7 h5 h6 h15 cn pz) (h1 : st = 3) : Ph 4 rs pr h3 s3 h4 True h5 h6 h15 cn pz := by
  obtain ⟨a, b, c, d, e, f, g, h, i, j, k, l, m, n⟩ := H
  refine ⟨?_, ?_, ?_, ?_, ?_, ?_, ?_, ?_, ?_, ?_, ?_, ?_, ?_, ?_⟩ <;> grind

theorem Ph.renewed {st rs : Int32} {pr h3 s3 h4 h7 h5 h6 h15 cn pz : Prop} (H : Ph st rs pr h3 s3 h4 h7 h5 h6 h15 cn pz) (h1 : st = 6) : Ph 5 rs pr h3 s3 h4 h7 h5 h6 h15 cn pz := by
  obtain ⟨a, b, c, d, e, f, g, h, i, j, k, l, m, n⟩ := H
  refine ⟨?_, ?_, ?_, ?_, ?_, ?_, ?_, ?_, ?_, ?_, ?_, ?_, ?_, ?_⟩ <;> grind

theorem Ph.recall {st rs : Int32} {pr h3 s3 h4 h7 h5 h6 h15 cn pz : Prop} (H : Ph st rs pr h3 s3 h4 h7 h5 h6 h15 cn pz) (h1 : st = 5 ∨ st = 6) : Ph 7 rs pr h3 s3 h4 h7 h5 h6 h15 cn pz := by
  obtain ⟨a, b, c, d, e, f, g, h, i, j, k, l, m, n⟩ := H
  refine ⟨?_, ?_, ?_, ?_, ?_, ?_, ?_, ?_, ?_, ?_, ?_, ?_, ?_, ?_⟩ <;> grind

theorem Ph.checkIn {st rs : Int32} {pr h3 s3 h4 h7 h5 h6 h15 cn pz : Prop} (H : Ph st rs pr h3 s3 h4 h7 h5 h6 h15 cn pz) (h1 : st = 8) : Ph 9 rs pr h3 s3 h4 h7 h5 h6 h15 cn pz := by
  obtain ⟨a, b, c, d, e, f, g, h, i, j, k, l, m, n⟩ := H
  refine ⟨?_, ?_, ?_, ?_, ?_, ?_, ?_, ?_, ?_, ?_, ?_, ?_, ?_, ?_⟩ <;> grind

theorem Ph.t1 {st rs : Int32} {pr h3 s3 h4 h7 h5 h6 h15 cn pz : Prop} (H : Ph st rs pr h3 s3 h4 h7 h5 h6 h15 cn pz) (h1 : st = 0) : Ph 1 rs pr h3 s3 h4 h7 h5 h6 h15 cn pz := by
  obtain ⟨a, b, c, d, e, f, g, h, i, j, k, l, m, n⟩ := H
  refine ⟨?_, ?_, ?_, ?_, ?_, ?_, ?_, ?_, ?_, ?_, ?_, ?_, ?_, ?_⟩ <;> grind

theorem Ph.t5 {st rs : Int32} {pr h3 s3 h4 h7 h5 h6 h15 cn pz : Prop} (H : Ph st rs pr h3 s3 h4 h7 h5 h6 h15 cn pz) (h9 : h5) (h1 : st = 2) : Ph 1 rs pr h3 s3 h4 h7 h5 h6 h15 cn pz := by
  obtain ⟨a, b, c, d, e, f, g, h, i, j, k, l, m, n⟩ := H
  refine ⟨?_, ?_, ?_, ?_, ?_, ?_, ?_, ?_, ?_, ?_, ?_, ?_, ?_, ?_⟩ <;> grind

theorem Ph.t6 {st rs : Int32} {pr h3 s3 h4 h7 h5 h6 h15 cn pz : Prop} (H : Ph st rs pr h3 s3 h4 h7 h5 h6 h15 cn pz) (h9 : h6) (h1 : st = 2) : Ph 10 rs pr h3 s3 h4 h7 h5 h6 h15 cn pz := by
  obtain ⟨a, b, c, d, e, f, g, h, i, j, k, l, m, n⟩ := H
  refine ⟨?_, ?_, ?_, ?_, ?_, ?_, ?_, ?_, ?_, ?_, ?_, ?_, ?_, ?_⟩ <;> grind

theorem Ph.t8 {st rs : Int32} {pr h3 s3 h4 h7 h5 h6 h15 cn pz : Prop} (H : Ph st rs pr h3 s3 h4 h7 h5 h6 h15 cn pz) (h1 : st = 4) : Ph 5 rs pr h3 s3 h4 h7 h5 h6 h15 cn pz := by
  obtain ⟨a, b, c, d, e, f, g, h, i, j, k, l, m, n⟩ := H
  refine ⟨?_, ?_, ?_, ?_, ?_, ?_, ?_, ?_, ?_, ?_, ?_, ?_, ?_, ?_⟩ <;> grind

theorem Ph.t9 {st rs : Int32} {pr h3 s3 h4 h7 h5 h6 h15 cn pz : Prop} (H : Ph st rs pr h3 s3 h4 h7 h5 h6 h15 cn pz) (h1 : st = 5) : Ph 6 rs pr h3 s3 h4 h7 h5 h6 h15 cn pz := by
  obtain ⟨a, b, c, d, e, f, g, h, i, j, k, l, m, n⟩ := H
  refine ⟨?_, ?_, ?_, ?_, ?_, ?_, ?_, ?_, ?_, ?_, ?_, ?_, ?_, ?_⟩ <;> grind

theorem Ph.tout {st rs : Int32} {pr h3 s3 h4 h7 h5 h6 h15 cn pz : Prop} (H : Ph st rs pr h3 s3 h4 h7 h5 h6 h15 cn pz) {v : Int32} (hv : v = 8 ∨ v = 12) (h1 : st = 5 ∨ st = 6 ∨ st = 7) : Ph v rs pr h3 s3 h4 h7 h5 h6 h15 cn pz := by
  obtain ⟨a, b, c, d, e, f, g, h, i, j, k, l, m, n⟩ := H
  refine ⟨?_, ?_, ?_, ?_, ?_, ?_, ?_, ?_, ?_, ?_, ?_, ?_, ?_, ?_⟩ <;> grind

theorem Ph.t15 {st rs : Int32} {pr h3 s3 h4 h7 h5 h6 h15 cn pz : Prop} (H : Ph st rs pr h3 s3 h4 h7 h5 h6 h15 cn pz) (h9 : h15) (h1 : st = 1 ∨ st = 2 ∨ st = 3) : Ph 11 rs pr h3 s3 h4 h7 h5 h6 h15 cn pz := by
  obtain ⟨a, b, c, d, e, f, g, h, i, j, k, l, m, n⟩ := H
  refine ⟨?_, ?_, ?_, ?_, ?_, ?_, ?_, ?_, ?_, ?_, ?_, ?_, ?_, ?_⟩ <;> grind

theorem Ph.u7 {st rs : Int32} {pr h3 s3 h4 h7 h5 h6 h15 cn pz : Prop} (H : Ph st rs pr h3 s3 h4 h7 h5 h6 h15 cn pz) (hp : pr) (h9 : h7) (h1 : rs = 2 ∨ rs = 10) : Ph st 3 pr h3 s3 h4 h7 h5 h6 h15 cn pz := by
  obtain ⟨a, b, c, d, e, f, g, h, i, j, k, l, m, n⟩ := H
  refine ⟨?_, ?_, ?_, ?_, ?_, ?_, ?_, ?_, ?_, ?_, ?_, ?_, ?_, ?_⟩ <;> grind

theorem Ph.u10 {st rs : Int32} {pr h3 s3 h4 h7 h5 h6 h15 cn pz : Prop} (H : Ph st rs pr h3 s3 h4 h7 h5 h6 h15 cn pz) (hp : pr) (h1 : rs = 5) : Ph st 4 pr h3 s3 h4 h7 h5 h6 h15 cn pz := by
  obtain ⟨a, b, c, d, e, f, g, h, i, j, k, l, m, n⟩ := H
  refine ⟨?_, ?_, ?_, ?_, ?_, ?_, ?_, ?_, ?_, ?_, ?_, ?_, ?_, ?_⟩ <;> grind

theorem Ph.u11 {st rs : Int32} {pr h3 s3 h4 h7 h5 h6 h15 cn pz : Prop} (H : Ph st rs pr h3 s3 h4 h7 h5 h6 h15 cn pz) (hp : pr) (h1 : rs = 4 ∨ rs = 5) : Ph st 6 pr h3 s3 h4 h7 h5 h6 h15 cn pz := by
  obtain ⟨a, b, c, d, e, f, g, h, i, j, k, l, m, n⟩ := H
  refine ⟨?_, ?_, ?_, ?_, ?_, ?_, ?_, ?_, ?_, ?_, ?_, ?_, ?_, ?_⟩ <;> grind

theorem Ph.u2 {st rs : Int32} {pr h3 s3 h4 h7 h5 h6 h15 cn pz : Prop} (H : Ph st rs pr h3 s3 h4 h7 h5 h6 h15 cn pz) (hp : pr) (h1 : rs = 0) : Ph st 2 pr h3 s3 h4 h7 h5 h6 h15 cn pz := by
  obtain ⟨a, b, c, d, e, f, g, h, i, j, k, l, m, n⟩ := H
  refine ⟨?_, ?_, ?_, ?_, ?_, ?_, ?_, ?_, ?_, ?_, ?_, ?_, ?_, ?_⟩ <;> grind

theorem Ph.u3 {st rs : Int32} {pr h3 s3 h4 h7 h5 h6 h15 cn pz : Prop} (H : Ph st rs pr h3 s3 h4 h7 h5 h6 h15 cn pz) (hp : pr) (hh : h3) (hs : ¬ s3) (h1 : rs = 0) : Ph st 1 pr h3 True h4 h7 h5 h6 h15 cn pz := by
  obtain ⟨a, b, c, d, e, f, g, h, i, j, k, l, m, n⟩ := H
  refine ⟨?_, ?_, ?_, ?_, ?_, ?_, ?_, ?_, ?_, ?_, ?_, ?_, ?_, ?_⟩ <;> grind

theorem Ph.u3n {st rs : Int32} {pr h3 s3 h4 h7 h5 h6 h15 cn pz : Prop} (H : Ph st rs pr h3 s3 h4 h7 h5 h6 h15 cn pz) (hh : h3) : Ph st rs pr h3 True h4 h7 h5 h6 h15 cn pz := by
  obtain ⟨a, b, c, d, e, f, g, h, i, j, k, l, m, n⟩ := H
  refine ⟨?_, ?_, ?_, ?_, ?_, ?_, ?_, ?_, ?_, ?_, ?_, ?_, ?_, ?_⟩ <;> grind

theorem Ph.u4 {st rs : Int32} {pr h3 s3 h4 h7 h5 h6 h15 cn pz : Prop} (H : Ph st rs pr h3 s3 h4 h7 h5 h6 h15 cn pz) (hp : pr) (h1 : rs = 10) : Ph st 11 pr h3 s3 h4 h7 h5 h6 h15 cn pz := by
  obtain ⟨a, b, c, d, e, f, g, h, i, j, k, l, m, n⟩ := H
  refine ⟨?_, ?_, ?_, ?_, ?_, ?_, ?_, ?_, ?_, ?_, ?_, ?_, ?_, ?_⟩ <;> grind

theorem Ph.u13 {st rs : Int32} {pr h3 s3 h4 h7 h5 h6 h15 cn pz : Prop} (H : Ph st rs pr h3 s3 h4 h7 h5 h6 h15 cn pz) (hp : pr) (h1 : rs = 7) : Ph st 8 pr h3 s3 h4 h7 h5 h6 h15 cn pz := by
  obtain ⟨a, b, c, d, e, f, g, h, i, j, k, l, m, n⟩ := H
  refine ⟨?_, ?_, ?_, ?_, ?_, ?_, ?_, ?_, ?_, ?_, ?_, ?_, ?_, ?_⟩ <;> grind

theorem Ph.u4End {st rs : Int32} {pr h3 s3 h4 h7 h5 h6 h15 cn pz : Prop} (H : Ph st rs pr h3 s3 h4 h7 h5 h6 h15 cn pz) (hp : pr) (h9 : h4) (h1 : rs = 0) : Ph st 9 pr h3 s3 h4 h7 h5 h6 h15 cn pz := by
  obtain ⟨a, b, c, d, e, f, g, h, i, j, k, l, m, n⟩ := H
  refine ⟨?_, ?_, ?_, ?_, ?_, ?_, ?_, ?_, ?_, ?_, ?_, ?_, ?_, ?_⟩ <;> grind

theorem Ph.u4Next {st rs : Int32} {pr h3 s3 h4 h7 h5 h6 h15 cn pz : Prop} (H : Ph st rs pr h3 s3 h4 h7 h5 h6 h15 cn pz) {rs2 : Int32} (hp : pr) (h9 : h4) (h1 : rs = 0) : Ph st rs2 False h3 s3 h4 h7 h5 h6 h15 cn pz := by
  obtain ⟨a, b, c, d, e, f, g, h, i, j, k, l, m, n⟩ := H
  refine ⟨?_, ?_, ?_, ?_, ?_, ?_, ?_, ?_, ?_, ?_, ?_, ?_, ?_, ?_⟩ <;> grind

theorem Ph.other {st rs : Int32} {pr h3 s3 h4 h7 h5 h6 h15 cn pz : Prop} (H : Ph st rs pr h3 s3 h4 h7 h5 h6 h15 cn pz) {rs2 : Int32} (hp : ¬ pr) : Ph st rs2 pr h3 s3 h4 h7 h5 h6 h15 cn pz := by
  obtain ⟨a, b, c, d, e, f, g, h, i, j, k, l, m, n⟩ := H
  refine ⟨?_, ?_, ?_, ?_, ?_, ?_, ?_, ?_, ?_, ?_, ?_, ?_, ?_, ?_⟩ <;> grind

theorem Ph.fresh {rs : Int32} (hr : rs = 0) : Ph 0 rs True False False False False False False False True True := by
  subst hr
  refine ⟨?_, ?_, ?_, ?_, ?_, ?_, ?_, ?_, ?_, ?_, ?_, ?_, ?_, ?_⟩ <;> simp
