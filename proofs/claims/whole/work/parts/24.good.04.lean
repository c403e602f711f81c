/-! the law's own instructions, read by short lists -/
def zc_at {α : Type} (c : List (List α)) (i : Nat) : Option α := (c.getD (i / 64) [])[i % 64]?
def zc_ok {α : Type} (c : List (List α)) : Bool := match c with
  | [] => true
  | x :: r => (if r.isEmpty then decide (x.length ≤ 64) else decide (x.length = 64)) && zc_ok r
theorem zc_flat {α : Type} : ∀ (c : List (List α)) (i : Nat), zc_ok c = true → c.flatten[i]? = zc_at c i := by
  intro c
  induction c with
  | nil => intro i _; simp [zc_at]
  | cons x r ih =>
    intro i h
    simp only [zc_ok, Bool.and_eq_true] at h
    obtain ⟨h1, h2⟩ := h
    rw [List.flatten_cons]
    by_cases hi : i < 64
    · have e1 : i / 64 = 0 := by omega
      have e2 : i % 64 = i := by omega
      unfold zc_at
      rw [e1, e2]
      show (x ++ r.flatten)[i]? = x[i]?
      by_cases hx : i < x.length
      · rw [List.getElem?_append_left hx]
      · cases r with
        | nil => simp
        | cons y t =>
          simp at h1
          omega
    · have e1 : i / 64 = (i - 64) / 64 + 1 := by omega
      have e2 : i % 64 = (i - 64) % 64 := by omega
      have e3 : zc_at (x :: r) i = zc_at r (i - 64) := by
        unfold zc_at
        rw [e1, e2]
        rfl
      rw [e3, ← ih (i - 64) h2]
      cases r with
      | nil =>
        simp at h1
        rw [List.getElem?_append_right (by omega)]
        simp
      | cons y t =>
        simp at h1
        rw [List.getElem?_append_right (by omega), h1]
theorem zu1 {c : ByteArray} {k : Nat} {b : UInt8} (e : c.data.toList[k]? = some b) : (Jvm.ClassFile.Reader.u1 : Jvm.ClassFile.Decoder Nat) c k = .ok (b.toNat, k + 1) := by
  obtain ⟨hk, hb⟩ := List.getElem?_eq_some_iff.mp e
  have hk : k < c.size := hk
  have hb : c[k] = b := hb
  show (dite (k < c.size) (fun h => ((do set (k + 1); pure c[k].toNat) : Jvm.ClassFile.Decoder Nat)) (fun _ => throw (Jvm.ClassFile.HasTruncated.truncated k))) c k = _
  rw [dif_pos hk, hb]
  rfl
abbrev zDe := Jvm.ClassFile.Decoder
theorem zd_go {K : Nat → zDe Instr} {c : ByteArray} {pc n p1 p2 : Nat} {i : Instr} (hK : Jvm.ClassFile.Decoder.instr pc = (Bind.bind (Jvm.ClassFile.Reader.u1 : zDe Nat) K)) (u0 : (Jvm.ClassFile.Reader.u1 : zDe Nat) c pc = .ok (n, p1)) (hn : K n c p1 = .ok (i, p2)) : decode c pc = .ok (i, p2 - pc) := by
  unfold decode
  rw [hK]
  show Except.bind (Except.bind ((Jvm.ClassFile.Reader.u1 : zDe Nat) c pc) (fun v => K v.1 c v.2)) (fun v => .ok (v.1, v.2 - pc)) = _
  rw [u0]
  show Except.bind (K n c p1) _ = _
  rw [hn]
  rfl
theorem zd_u1 {f : Nat → Instr} {c : ByteArray} {p1 p2 x : Nat} (u : (Jvm.ClassFile.Reader.u1 : zDe Nat) c p1 = .ok (x, p2)) : (Bind.bind (Jvm.ClassFile.Reader.u1 : zDe Nat) (fun y => (Pure.pure (f y) : zDe Instr))) c p1 = .ok (f x, p2) := by
  show Except.bind ((Jvm.ClassFile.Reader.u1 : zDe Nat) c p1) (fun v => .ok (f v.1, v.2)) = _
  rw [u]
  rfl
theorem zd_s1' {c : ByteArray} {p1 p2 x : Nat} (u : (Jvm.ClassFile.Reader.u1 : zDe Nat) c p1 = .ok (x, p2)) : (Jvm.ClassFile.Reader.s1 : zDe Int) c p1 = .ok (Jvm.ClassFile.Reader.signed 8 x, p2) := by
  show Except.bind ((Jvm.ClassFile.Reader.u1 : zDe Nat) c p1) (fun v => .ok (Jvm.ClassFile.Reader.signed 8 v.1, v.2)) = _
  rw [u]
  rfl
theorem zd_s1 {f : Int → Instr} {c : ByteArray} {p1 p2 x : Nat} (u : (Jvm.ClassFile.Reader.u1 : zDe Nat) c p1 = .ok (x, p2)) : (Bind.bind (Jvm.ClassFile.Reader.s1 : zDe Int) (fun y => (Pure.pure (f y) : zDe Instr))) c p1 = .ok (f (Jvm.ClassFile.Reader.signed 8 x), p2) := by
  show Except.bind ((Jvm.ClassFile.Reader.s1 : zDe Int) c p1) (fun v => .ok (f v.1, v.2)) = _
  rw [zd_s1' u]
  rfl
theorem zd_us {f : Nat → Int → Instr} {c : ByteArray} {p1 p2 p3 x y : Nat} (u : (Jvm.ClassFile.Reader.u1 : zDe Nat) c p1 = .ok (x, p2)) (v : (Jvm.ClassFile.Reader.u1 : zDe Nat) c p2 = .ok (y, p3)) : (Bind.bind (Jvm.ClassFile.Reader.u1 : zDe Nat) (fun a => Bind.bind (Jvm.ClassFile.Reader.s1 : zDe Int) (fun b => (Pure.pure (f a b) : zDe Instr)))) c p1 = .ok (f x (Jvm.ClassFile.Reader.signed 8 y), p3) := by
  show Except.bind ((Jvm.ClassFile.Reader.u1 : zDe Nat) c p1) (fun w => Except.bind ((Jvm.ClassFile.Reader.s1 : zDe Int) c w.2) (fun z => .ok (f w.1 z.1, z.2))) = _
  rw [u]
  show Except.bind ((Jvm.ClassFile.Reader.s1 : zDe Int) c p2) _ = _
  rw [zd_s1' v]
  rfl
theorem zd_u2' {c : ByteArray} {p1 p2 p3 x y : Nat} (u : (Jvm.ClassFile.Reader.u1 : zDe Nat) c p1 = .ok (x, p2)) (v : (Jvm.ClassFile.Reader.u1 : zDe Nat) c p2 = .ok (y, p3)) : (Jvm.ClassFile.Reader.u2 : zDe Nat) c p1 = .ok (x * 256 + y, p3) := by
  show Except.bind ((Jvm.ClassFile.Reader.u1 : zDe Nat) c p1) (fun w => Except.bind ((Jvm.ClassFile.Reader.u1 : zDe Nat) c w.2) (fun z => .ok (w.1 * 256 + z.1, z.2))) = _
  rw [u]
  show Except.bind ((Jvm.ClassFile.Reader.u1 : zDe Nat) c p2) _ = _
  rw [v]
  rfl
theorem zd_u2 {f : Nat → Instr} {c : ByteArray} {p1 p2 p3 x y : Nat} (u : (Jvm.ClassFile.Reader.u1 : zDe Nat) c p1 = .ok (x, p2)) (v : (Jvm.ClassFile.Reader.u1 : zDe Nat) c p2 = .ok (y, p3)) : (Bind.bind (Jvm.ClassFile.Reader.u2 : zDe Nat) (fun y => (Pure.pure (f y) : zDe Instr))) c p1 = .ok (f (x * 256 + y), p3) := by
  show Except.bind ((Jvm.ClassFile.Reader.u2 : zDe Nat) c p1) (fun v => .ok (f v.1, v.2)) = _
  rw [zd_u2' u v]
  rfl
theorem zd_s2' {c : ByteArray} {p1 p2 p3 x y : Nat} (u : (Jvm.ClassFile.Reader.u1 : zDe Nat) c p1 = .ok (x, p2)) (v : (Jvm.ClassFile.Reader.u1 : zDe Nat) c p2 = .ok (y, p3)) : (Jvm.ClassFile.Reader.s2 : zDe Int) c p1 = .ok (Jvm.ClassFile.Reader.signed 16 (x * 256 + y), p3) := by
  show Except.bind ((Jvm.ClassFile.Reader.u2 : zDe Nat) c p1) (fun v => .ok (Jvm.ClassFile.Reader.signed 16 v.1, v.2)) = _
  rw [zd_u2' u v]
  rfl
theorem zd_s2 {f : Int → Instr} {c : ByteArray} {p1 p2 p3 x y : Nat} (u : (Jvm.ClassFile.Reader.u1 : zDe Nat) c p1 = .ok (x, p2)) (v : (Jvm.ClassFile.Reader.u1 : zDe Nat) c p2 = .ok (y, p3)) : (Bind.bind (Jvm.ClassFile.Reader.s2 : zDe Int) (fun y => (Pure.pure (f y) : zDe Instr))) c p1 = .ok (f (Jvm.ClassFile.Reader.signed 16 (x * 256 + y)), p3) := by
  show Except.bind ((Jvm.ClassFile.Reader.s2 : zDe Int) c p1) (fun v => .ok (f v.1, v.2)) = _
  rw [zd_s2' u v]
  rfl
def zal : List Nat := [3, 4, 5, 6, 7, 8, 9, 10, 16, 21, 42, 43, 44, 45, 46, 47, 54, 75, 76, 77, 78, 96, 100, 126, 132, 133, 148, 153, 154, 159, 163, 167, 172, 182, 184, 190]
set_option maxRecDepth 100000 in
theorem zd3 {c : ByteArray} {pc : Nat} {b0 b1 b2 : UInt8} (e0 : c.data.toList[pc]? = some b0) (e1 : c.data.toList[pc + 1]? = some b1) (e2 : c.data.toList[pc + 1 + 1]? = some b2) (h : b0.toNat ∈ zal) : decode c pc = decode ⟨#[b0, b1, b2]⟩ 0 := by
  have u0 := zu1 e0
  have u1 := zu1 e1
  have u2 := zu1 e2
  have w0 : (Jvm.ClassFile.Reader.u1 : zDe Nat) ⟨#[b0, b1, b2]⟩ 0 = .ok (b0.toNat, 0 + 1) := zu1 rfl
  have w1 : (Jvm.ClassFile.Reader.u1 : zDe Nat) ⟨#[b0, b1, b2]⟩ (0 + 1) = .ok (b1.toNat, 0 + 1 + 1) := zu1 rfl
  have w2 : (Jvm.ClassFile.Reader.u1 : zDe Nat) ⟨#[b0, b1, b2]⟩ (0 + 1 + 1) = .ok (b2.toNat, 0 + 1 + 1 + 1) := zu1 rfl
  have s1 : pc + 1 - pc = 0 + 1 - 0 := by omega
  have s2 : pc + 1 + 1 - pc = 0 + 1 + 1 - 0 := by omega
  have s3 : pc + 1 + 1 + 1 - pc = 0 + 1 + 1 + 1 - 0 := by omega
  simp only [zal, List.mem_cons, List.not_mem_nil, or_false] at h
  rcases h with h | h | h | h | h | h | h | h | h | h | h | h | h | h | h | h | h | h | h | h | h | h | h | h | h | h | h | h | h | h | h | h | h | h | h | h
  · rw [show decode c pc = _ from zd_go (n := 3) (i := (Instr.iconst 0)) (p2 := pc + 1) rfl (by rw [u0, h]) rfl, show decode ⟨#[b0, b1, b2]⟩ 0 = _ from zd_go (n := 3) (i := (Instr.iconst 0)) (p2 := 0 + 1) rfl (by rw [w0, h]) rfl, s1]
  · rw [show decode c pc = _ from zd_go (n := 4) (i := (Instr.iconst 1)) (p2 := pc + 1) rfl (by rw [u0, h]) rfl, show decode ⟨#[b0, b1, b2]⟩ 0 = _ from zd_go (n := 4) (i := (Instr.iconst 1)) (p2 := 0 + 1) rfl (by rw [w0, h]) rfl, s1]
  · rw [show decode c pc = _ from zd_go (n := 5) (i := (Instr.iconst 2)) (p2 := pc + 1) rfl (by rw [u0, h]) rfl, show decode ⟨#[b0, b1, b2]⟩ 0 = _ from zd_go (n := 5) (i := (Instr.iconst 2)) (p2 := 0 + 1) rfl (by rw [w0, h]) rfl, s1]
  · rw [show decode c pc = _ from zd_go (n := 6) (i := (Instr.iconst 3)) (p2 := pc + 1) rfl (by rw [u0, h]) rfl, show decode ⟨#[b0, b1, b2]⟩ 0 = _ from zd_go (n := 6) (i := (Instr.iconst 3)) (p2 := 0 + 1) rfl (by rw [w0, h]) rfl, s1]
  · rw [show decode c pc = _ from zd_go (n := 7) (i := (Instr.iconst 4)) (p2 := pc + 1) rfl (by rw [u0, h]) rfl, show decode ⟨#[b0, b1, b2]⟩ 0 = _ from zd_go (n := 7) (i := (Instr.iconst 4)) (p2 := 0 + 1) rfl (by rw [w0, h]) rfl, s1]
  · rw [show decode c pc = _ from zd_go (n := 8) (i := (Instr.iconst 5)) (p2 := pc + 1) rfl (by rw [u0, h]) rfl, show decode ⟨#[b0, b1, b2]⟩ 0 = _ from zd_go (n := 8) (i := (Instr.iconst 5)) (p2 := 0 + 1) rfl (by rw [w0, h]) rfl, s1]
  · rw [show decode c pc = _ from zd_go (n := 9) (i := (Instr.lconst 0)) (p2 := pc + 1) rfl (by rw [u0, h]) rfl, show decode ⟨#[b0, b1, b2]⟩ 0 = _ from zd_go (n := 9) (i := (Instr.lconst 0)) (p2 := 0 + 1) rfl (by rw [w0, h]) rfl, s1]
  · rw [show decode c pc = _ from zd_go (n := 10) (i := (Instr.lconst 1)) (p2 := pc + 1) rfl (by rw [u0, h]) rfl, show decode ⟨#[b0, b1, b2]⟩ 0 = _ from zd_go (n := 10) (i := (Instr.lconst 1)) (p2 := 0 + 1) rfl (by rw [w0, h]) rfl, s1]
  · rw [show decode c pc = _ from zd_go (n := 16) (i := ((Instr.bipush) (Jvm.ClassFile.Reader.signed 8 b1.toNat))) (p2 := pc + 1 + 1) rfl (by rw [u0, h]) (zd_s1 (f := fun y => Instr.bipush y) u1), show decode ⟨#[b0, b1, b2]⟩ 0 = _ from zd_go (n := 16) (i := ((Instr.bipush) (Jvm.ClassFile.Reader.signed 8 b1.toNat))) (p2 := 0 + 1 + 1) rfl (by rw [w0, h]) (zd_s1 (f := fun y => Instr.bipush y) w1), s2]
  · rw [show decode c pc = _ from zd_go (n := 21) (i := (Instr.iload b1.toNat)) (p2 := pc + 1 + 1) rfl (by rw [u0, h]) (zd_u1 (f := fun y => Instr.iload y) u1), show decode ⟨#[b0, b1, b2]⟩ 0 = _ from zd_go (n := 21) (i := (Instr.iload b1.toNat)) (p2 := 0 + 1 + 1) rfl (by rw [w0, h]) (zd_u1 (f := fun y => Instr.iload y) w1), s2]
  · rw [show decode c pc = _ from zd_go (n := 42) (i := (Instr.aload_n 0)) (p2 := pc + 1) rfl (by rw [u0, h]) rfl, show decode ⟨#[b0, b1, b2]⟩ 0 = _ from zd_go (n := 42) (i := (Instr.aload_n 0)) (p2 := 0 + 1) rfl (by rw [w0, h]) rfl, s1]
  · rw [show decode c pc = _ from zd_go (n := 43) (i := (Instr.aload_n 1)) (p2 := pc + 1) rfl (by rw [u0, h]) rfl, show decode ⟨#[b0, b1, b2]⟩ 0 = _ from zd_go (n := 43) (i := (Instr.aload_n 1)) (p2 := 0 + 1) rfl (by rw [w0, h]) rfl, s1]
  · rw [show decode c pc = _ from zd_go (n := 44) (i := (Instr.aload_n 2)) (p2 := pc + 1) rfl (by rw [u0, h]) rfl, show decode ⟨#[b0, b1, b2]⟩ 0 = _ from zd_go (n := 44) (i := (Instr.aload_n 2)) (p2 := 0 + 1) rfl (by rw [w0, h]) rfl, s1]
  · rw [show decode c pc = _ from zd_go (n := 45) (i := (Instr.aload_n 3)) (p2 := pc + 1) rfl (by rw [u0, h]) rfl, show decode ⟨#[b0, b1, b2]⟩ 0 = _ from zd_go (n := 45) (i := (Instr.aload_n 3)) (p2 := 0 + 1) rfl (by rw [w0, h]) rfl, s1]
  · rw [show decode c pc = _ from zd_go (n := 46) (i := (Instr.iaload)) (p2 := pc + 1) rfl (by rw [u0, h]) rfl, show decode ⟨#[b0, b1, b2]⟩ 0 = _ from zd_go (n := 46) (i := (Instr.iaload)) (p2 := 0 + 1) rfl (by rw [w0, h]) rfl, s1]
  · rw [show decode c pc = _ from zd_go (n := 47) (i := (Instr.laload)) (p2 := pc + 1) rfl (by rw [u0, h]) rfl, show decode ⟨#[b0, b1, b2]⟩ 0 = _ from zd_go (n := 47) (i := (Instr.laload)) (p2 := 0 + 1) rfl (by rw [w0, h]) rfl, s1]
  · rw [show decode c pc = _ from zd_go (n := 54) (i := ((Instr.istore) b1.toNat)) (p2 := pc + 1 + 1) rfl (by rw [u0, h]) (zd_u1 (f := fun y => Instr.istore y) u1), show decode ⟨#[b0, b1, b2]⟩ 0 = _ from zd_go (n := 54) (i := ((Instr.istore) b1.toNat)) (p2 := 0 + 1 + 1) rfl (by rw [w0, h]) (zd_u1 (f := fun y => Instr.istore y) w1), s2]
  · rw [show decode c pc = _ from zd_go (n := 75) (i := (Instr.astore_n 0)) (p2 := pc + 1) rfl (by rw [u0, h]) rfl, show decode ⟨#[b0, b1, b2]⟩ 0 = _ from zd_go (n := 75) (i := (Instr.astore_n 0)) (p2 := 0 + 1) rfl (by rw [w0, h]) rfl, s1]
  · rw [show decode c pc = _ from zd_go (n := 76) (i := (Instr.astore_n 1)) (p2 := pc + 1) rfl (by rw [u0, h]) rfl, show decode ⟨#[b0, b1, b2]⟩ 0 = _ from zd_go (n := 76) (i := (Instr.astore_n 1)) (p2 := 0 + 1) rfl (by rw [w0, h]) rfl, s1]
  · rw [show decode c pc = _ from zd_go (n := 77) (i := (Instr.astore_n 2)) (p2 := pc + 1) rfl (by rw [u0, h]) rfl, show decode ⟨#[b0, b1, b2]⟩ 0 = _ from zd_go (n := 77) (i := (Instr.astore_n 2)) (p2 := 0 + 1) rfl (by rw [w0, h]) rfl, s1]
  · rw [show decode c pc = _ from zd_go (n := 78) (i := (Instr.astore_n 3)) (p2 := pc + 1) rfl (by rw [u0, h]) rfl, show decode ⟨#[b0, b1, b2]⟩ 0 = _ from zd_go (n := 78) (i := (Instr.astore_n 3)) (p2 := 0 + 1) rfl (by rw [w0, h]) rfl, s1]
  · rw [show decode c pc = _ from zd_go (n := 96) (i := (Instr.iadd)) (p2 := pc + 1) rfl (by rw [u0, h]) rfl, show decode ⟨#[b0, b1, b2]⟩ 0 = _ from zd_go (n := 96) (i := (Instr.iadd)) (p2 := 0 + 1) rfl (by rw [w0, h]) rfl, s1]
  · rw [show decode c pc = _ from zd_go (n := 100) (i := (Instr.isub)) (p2 := pc + 1) rfl (by rw [u0, h]) rfl, show decode ⟨#[b0, b1, b2]⟩ 0 = _ from zd_go (n := 100) (i := (Instr.isub)) (p2 := 0 + 1) rfl (by rw [w0, h]) rfl, s1]
  · rw [show decode c pc = _ from zd_go (n := 126) (i := (Instr.iand)) (p2 := pc + 1) rfl (by rw [u0, h]) rfl, show decode ⟨#[b0, b1, b2]⟩ 0 = _ from zd_go (n := 126) (i := (Instr.iand)) (p2 := 0 + 1) rfl (by rw [w0, h]) rfl, s1]
  · rw [show decode c pc = _ from zd_go (n := 132) (i := ((Instr.iinc) b1.toNat (Jvm.ClassFile.Reader.signed 8 b2.toNat))) (p2 := pc + 1 + 1 + 1) rfl (by rw [u0, h]) (zd_us (f := fun y z => Instr.iinc y z) u1 u2), show decode ⟨#[b0, b1, b2]⟩ 0 = _ from zd_go (n := 132) (i := ((Instr.iinc) b1.toNat (Jvm.ClassFile.Reader.signed 8 b2.toNat))) (p2 := 0 + 1 + 1 + 1) rfl (by rw [w0, h]) (zd_us (f := fun y z => Instr.iinc y z) w1 w2), s3]
  · rw [show decode c pc = _ from zd_go (n := 133) (i := (Instr.i2l)) (p2 := pc + 1) rfl (by rw [u0, h]) rfl, show decode ⟨#[b0, b1, b2]⟩ 0 = _ from zd_go (n := 133) (i := (Instr.i2l)) (p2 := 0 + 1) rfl (by rw [w0, h]) rfl, s1]
  · rw [show decode c pc = _ from zd_go (n := 148) (i := (Instr.lcmp)) (p2 := pc + 1) rfl (by rw [u0, h]) rfl, show decode ⟨#[b0, b1, b2]⟩ 0 = _ from zd_go (n := 148) (i := (Instr.lcmp)) (p2 := 0 + 1) rfl (by rw [w0, h]) rfl, s1]
  · rw [show decode c pc = _ from zd_go (n := 153) (i := ((Instr.ifCond .eq) (Jvm.ClassFile.Reader.signed 16 (b1.toNat * 256 + b2.toNat)))) (p2 := pc + 1 + 1 + 1) rfl (by rw [u0, h]) (zd_s2 (f := fun y => Instr.ifCond .eq y) u1 u2), show decode ⟨#[b0, b1, b2]⟩ 0 = _ from zd_go (n := 153) (i := ((Instr.ifCond .eq) (Jvm.ClassFile.Reader.signed 16 (b1.toNat * 256 + b2.toNat)))) (p2 := 0 + 1 + 1 + 1) rfl (by rw [w0, h]) (zd_s2 (f := fun y => Instr.ifCond .eq y) w1 w2), s3]
  · rw [show decode c pc = _ from zd_go (n := 154) (i := ((Instr.ifCond .ne) (Jvm.ClassFile.Reader.signed 16 (b1.toNat * 256 + b2.toNat)))) (p2 := pc + 1 + 1 + 1) rfl (by rw [u0, h]) (zd_s2 (f := fun y => Instr.ifCond .ne y) u1 u2), show decode ⟨#[b0, b1, b2]⟩ 0 = _ from zd_go (n := 154) (i := ((Instr.ifCond .ne) (Jvm.ClassFile.Reader.signed 16 (b1.toNat * 256 + b2.toNat)))) (p2 := 0 + 1 + 1 + 1) rfl (by rw [w0, h]) (zd_s2 (f := fun y => Instr.ifCond .ne y) w1 w2), s3]
  · rw [show decode c pc = _ from zd_go (n := 159) (i := ((Instr.if_icmp .eq) (Jvm.ClassFile.Reader.signed 16 (b1.toNat * 256 + b2.toNat)))) (p2 := pc + 1 + 1 + 1) rfl (by rw [u0, h]) (zd_s2 (f := fun y => Instr.if_icmp .eq y) u1 u2), show decode ⟨#[b0, b1, b2]⟩ 0 = _ from zd_go (n := 159) (i := ((Instr.if_icmp .eq) (Jvm.ClassFile.Reader.signed 16 (b1.toNat * 256 + b2.toNat)))) (p2 := 0 + 1 + 1 + 1) rfl (by rw [w0, h]) (zd_s2 (f := fun y => Instr.if_icmp .eq y) w1 w2), s3]
  · rw [show decode c pc = _ from zd_go (n := 163) (i := ((Instr.if_icmp .gt) (Jvm.ClassFile.Reader.signed 16 (b1.toNat * 256 + b2.toNat)))) (p2 := pc + 1 + 1 + 1) rfl (by rw [u0, h]) (zd_s2 (f := fun y => Instr.if_icmp .gt y) u1 u2), show decode ⟨#[b0, b1, b2]⟩ 0 = _ from zd_go (n := 163) (i := ((Instr.if_icmp .gt) (Jvm.ClassFile.Reader.signed 16 (b1.toNat * 256 + b2.toNat)))) (p2 := 0 + 1 + 1 + 1) rfl (by rw [w0, h]) (zd_s2 (f := fun y => Instr.if_icmp .gt y) w1 w2), s3]
  · rw [show decode c pc = _ from zd_go (n := 167) (i := ((Instr.goto) (Jvm.ClassFile.Reader.signed 16 (b1.toNat * 256 + b2.toNat)))) (p2 := pc + 1 + 1 + 1) rfl (by rw [u0, h]) (zd_s2 (f := fun y => Instr.goto y) u1 u2), show decode ⟨#[b0, b1, b2]⟩ 0 = _ from zd_go (n := 167) (i := ((Instr.goto) (Jvm.ClassFile.Reader.signed 16 (b1.toNat * 256 + b2.toNat)))) (p2 := 0 + 1 + 1 + 1) rfl (by rw [w0, h]) (zd_s2 (f := fun y => Instr.goto y) w1 w2), s3]
  · rw [show decode c pc = _ from zd_go (n := 172) (i := (Instr.ireturn)) (p2 := pc + 1) rfl (by rw [u0, h]) rfl, show decode ⟨#[b0, b1, b2]⟩ 0 = _ from zd_go (n := 172) (i := (Instr.ireturn)) (p2 := 0 + 1) rfl (by rw [w0, h]) rfl, s1]
  · rw [show decode c pc = _ from zd_go (n := 182) (i := ((Instr.invokevirtual) (b1.toNat * 256 + b2.toNat))) (p2 := pc + 1 + 1 + 1) rfl (by rw [u0, h]) (zd_u2 (f := fun y => Instr.invokevirtual y) u1 u2), show decode ⟨#[b0, b1, b2]⟩ 0 = _ from zd_go (n := 182) (i := ((Instr.invokevirtual) (b1.toNat * 256 + b2.toNat))) (p2 := 0 + 1 + 1 + 1) rfl (by rw [w0, h]) (zd_u2 (f := fun y => Instr.invokevirtual y) w1 w2), s3]
  · rw [show decode c pc = _ from zd_go (n := 184) (i := ((Instr.invokestatic) (b1.toNat * 256 + b2.toNat))) (p2 := pc + 1 + 1 + 1) rfl (by rw [u0, h]) (zd_u2 (f := fun y => Instr.invokestatic y) u1 u2), show decode ⟨#[b0, b1, b2]⟩ 0 = _ from zd_go (n := 184) (i := ((Instr.invokestatic) (b1.toNat * 256 + b2.toNat))) (p2 := 0 + 1 + 1 + 1) rfl (by rw [w0, h]) (zd_u2 (f := fun y => Instr.invokestatic y) w1 w2), s3]
  · rw [show decode c pc = _ from zd_go (n := 190) (i := (Instr.arraylength)) (p2 := pc + 1) rfl (by rw [u0, h]) rfl, show decode ⟨#[b0, b1, b2]⟩ 0 = _ from zd_go (n := 190) (i := (Instr.arraylength)) (p2 := 0 + 1) rfl (by rw [w0, h]) rfl, s1]
def z_e (dec : Nat → Except Jvm.ClassFile.DecodeError (Instr × Nat)) (pc np : Nat) (i : Instr) (n : Nat) : Bool := decide (dec pc = .ok (i, n)) && decide (np = pc + n)
def z_okf (pcf : Nat → Nat) (dec : Nat → Except Jvm.ClassFile.DecodeError (Instr × Nat)) (m i : Nat) (x : zI) : Bool :=
  let pc := pcf i
  let np := pcf (i + 1)
  let own := z_cls m
  let a := x.2.1
  let v := x.2.2.1
  let ix := x.2.2.2.1
  let k := x.2.2.2.2
  match x.1 with
  | 0 => z_e dec pc np (.iconst v) 1 || (z_e dec pc np (.bipush v) 2 && decide ((Int8.ofInt v).toInt32 = Int32.ofInt v)) || (z_e dec pc np (.sipush v) 3 && decide ((Int16.ofInt v).toInt32 = Int32.ofInt v)) || (z_e dec pc np (.ldc ix) 2 && z_w k (.constant own ix (Int32.ofInt v))) || (z_e dec pc np (.ldc_w ix) 3 && z_w k (.constant own ix (Int32.ofInt v)))
  | 1 => (z_e dec pc np (.iload_n (Fin.ofNat 4 a)) 1 && decide (a < 4)) || z_e dec pc np (.iload a) 2
  | 2 => (z_e dec pc np (.aload_n (Fin.ofNat 4 a)) 1 && decide (a < 4)) || z_e dec pc np (.aload a) 2
  | 3 => (z_e dec pc np (.istore_n (Fin.ofNat 4 a)) 1 && decide (a < 4)) || z_e dec pc np (.istore a) 2
  | 4 => (z_e dec pc np (.astore_n (Fin.ofNat 4 a)) 1 && decide (a < 4)) || z_e dec pc np (.astore a) 2
  | 5 => z_e dec pc np (.iinc a v) 3
  | 6 => z_e dec pc np (.getfield ix) 3 && z_fld own a v.toNat ix k
  | 7 => z_e dec pc np (.putfield ix) 3 && z_fld own a v.toNat ix k && z_put a v.toNat .int
  | 33 => z_e dec pc np (.putfield ix) 3 && z_fld own a v.toNat ix k && z_put a v.toNat .boolean
  | 8 => z_e dec pc np .iaload 1
  | 9 => z_e dec pc np .baload 1
  | 10 => z_e dec pc np .iastore 1
  | 11 => z_e dec pc np .bastore 1
  | 12 => z_e dec pc np .arraylength 1
  | 13 => z_e dec pc np (z_bi a) 1
  | 14 => z_e dec pc np .dup 1
  | 15 => z_e dec pc np .dup2 1
  | 16 => z_e dec pc np .pop 1
  | 17 => match dec pc with
    | .ok (.goto off, 3) => decide ((pc : Int) + off = (pcf a : Int))
    | _ => false
  | 18 => match dec pc with
    | .ok (.ifCond cd off, 3) => decide ((pc : Int) + off = (pcf a : Int)) && decide (np = pc + 3) && decide (z_ifk cd = v.toNat)
    | _ => false
  | 19 => match dec pc with
    | .ok (.if_icmp cd off, 3) => decide ((pc : Int) + off = (pcf a : Int)) && decide (np = pc + 3) && decide (z_ifk cd = v.toNat)
    | _ => false
  | 20 => match dec pc with
    | .ok (.lookupswitch d ps, _) => (ps.toList.zip (ps.toList.drop 1)).all (fun (a, next) => a.1 < next.1) && decide ((pc : Int) + d = (pcf (z_sw.getD a (0, [])).1 : Int)) && decide (ps.toList.map (fun p => (p.1, (pc : Int) + p.2)) = (z_sw.getD a (0, [])).2.map (fun p => (p.1, (pcf p.2 : Int))))
    | _ => false
  | 36 => match dec pc with
    | .ok (.tableswitch d lo hi offs, _) => decide ((pc : Int) + d = (pcf (z_sw.getD a (0, [])).1 : Int)) && decide (lo = 0) && decide (hi + 1 = (offs.size : Int)) && decide ((List.range offs.size).map (fun (j : Nat) => ((j : Int), (pc : Int) + offs.getD j 0)) = (z_sw.getD a (0, [])).2.map (fun p => (p.1, (pcf p.2 : Int))))
    | _ => false
  | 21 => z_e dec pc np (.invokevirtual ix) 3 && z_w k (.methodLink own ix (z_y a)) && z_cal m a && decide (z_st a = 0) && (z_th m).isEmpty && (z_tb m).isEmpty && (z_tb a).isEmpty && decide ((vwCl[v.toNat]?).map (·.1) = some (z_cls a))
  | 32 => z_e dec pc np (.invokevirtual ix) 3 && z_w k (.methodLink own ix (z_y a)) && z_cal m a && decide (z_st a = 0) && (z_tb a).isEmpty && decide ((vwCl[v.toNat]?).map (·.1) = some (z_cls a)) && !(z_th m).isEmpty && z_hck m pc
  | 22 => z_e dec pc np (.invokestatic ix) 3 && z_w k (.methodLink own ix (z_y a)) && z_cal m a && decide (z_st a = 1) && (z_th m).isEmpty && (z_tb m).isEmpty && (z_tb a).isEmpty
  | 34 => z_e dec pc np (.invokestatic 66) 3 && decide (a = 195) && decide (z_y a = yX11_firstOf) && decide (own = RX6) && z_cal m a && decide (z_st a = 1) && (z_th m).isEmpty && (z_tb m).isEmpty && (z_tb a).isEmpty
  | 35 => z_e dec pc np (.invokestatic ix) 3 && z_w k (.methodLink own ix (z_y a)) && z_cal m a && decide (z_st a = 1) && (z_th m).isEmpty && (z_tb m).isEmpty && !(z_tb a).isEmpty
  | 23 => z_e dec pc np (.invokestatic ix) 3 && z_w k (.methodLink own ix Lib.Math.max.name) && decide (1 ≤ z_fr m) && decide (21 ≤ z_lo m)
  | 24 => z_e dec pc np (.invokestatic ix) 3 && z_w k (.methodLink own ix Lib.Math.min.name) && decide (1 ≤ z_fr m) && decide (21 ≤ z_lo m)
  | 25 => decide (dec pc = .ok (.ireturn, 1)) && decide (z_rt m = some .int)
  | 26 => decide (dec pc = .ok (.ireturn, 1)) && decide (z_rt m = some .boolean)
  | 27 => decide (dec pc = .ok (.return_, 1)) && decide (z_rt m = none)
  | 28 => decide (dec pc = .ok (.areturn, 1)) && (match z_rt m with | some (.object _) => true | _ => false)
  | 29 => decide (dec pc = .ok (.new ix, 3)) && decide (dec (pc + 3) = .ok (.dup, 1)) && decide (dec (pc + 4) = .ok (.invokespecial v.toNat, 3)) && decide (dec (pc + 7) = .ok (.athrow, 1)) && z_w k (.classLink own ix (z_exn a)) && decide (6 ≤ z_fr m) && decide (81 ≤ z_lo m) && (z_tb m).isEmpty && decide (a < 3 ∧ m = 185 + a ∧ own = RX11 ∧ v.toNat = 387 + 3 * a)
  | 30 => z_e dec pc np .i2l 1
  | 31 => z_e dec pc np .lastore 1
  | 37 => z_e dec pc np .laload 1
  | 38 => z_e dec pc np .lcmp 1
  | 39 => (z_e dec pc np (.lconst 0) 1 && decide (v = 0)) || (z_e dec pc np (.lconst 1) 1 && decide (v = 1))
  | _ => false
theorem z_okf_eq (m i : Nat) (x : zI) : z_okf (z_pc m) (decode (z_b m)) m i x = z_okb m i x := rfl
