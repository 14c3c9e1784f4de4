/-- what is left of a list of bytes behind its first n -/
noncomputable def mb_dr (l : List UInt8) (n : Nat) : List UInt8 :=
  Nat.rec (motive := fun _ => List UInt8 → List UInt8) (fun l => l) (fun _ ih l => List.casesOn (motive := fun _ => List UInt8) l [] (fun _ t => ih t)) n l
theorem mb_dr_get : ∀ (n : Nat) (l : List UInt8) (x : UInt8) (r : List UInt8), mb_dr l n = x :: r → (∃ h : n < l.length, l[n] = x) ∧ mb_dr l (n + 1) = r
  | 0, l, x, r, h => by
    have h' : l = x :: r := h
    subst h'
    exact ⟨⟨Nat.succ_pos _, rfl⟩, rfl⟩
  | n + 1, [], x, r, h => by
    have h' : ([] : List UInt8) = x :: r := h
    exact absurd h' (by simp)
  | n + 1, a :: t, x, r, h => by
    have h' : mb_dr t n = x :: r := h
    obtain ⟨⟨g, e⟩, f⟩ := mb_dr_get n t x r h'
    exact ⟨⟨Nat.succ_lt_succ g, by simpa using e⟩, f⟩
abbrev mb_dR := Jvm.ClassFile.Decoder
theorem mb_u1r (cd : ByteArray) (pc : Nat) (x : UInt8) (l : List UInt8) (h : mb_dr cd.data.toList pc = x :: l) :
    (Jvm.ClassFile.Reader.u1 : mb_dR Nat) cd pc = .ok (x.toNat, pc + 1) ∧ mb_dr cd.data.toList (pc + 1) = l := by
  obtain ⟨⟨g, e⟩, f⟩ := mb_dr_get pc cd.data.toList x l h
  refine ⟨?_, f⟩
  have g2 : pc < cd.size := g
  have e2 : cd[pc] = x := e
  have w : (Jvm.ClassFile.Reader.u1 : mb_dR Nat) cd pc = (dite (pc < cd.size) (fun h => (do set (pc + 1); pure cd[pc].toNat : mb_dR Nat)) (fun _ => throw (Jvm.ClassFile.HasTruncated.truncated pc))) cd pc := rfl
  rw [w, dif_pos g2, e2]
  rfl
theorem mb_bi {α β : Type} (m : mb_dR α) (F : α → mb_dR β) (cd : ByteArray) (pc : Nat) (a : α) (s : Nat) (h : m cd pc = .ok (a, s)) : (m >>= F) cd pc = F a cd s := by
  show Except.bind (m cd pc) _ = _
  rw [h]
  rfl
theorem mb_ma {α β : Type} (m : mb_dR α) (f : α → β) (cd : ByteArray) (pc : Nat) (a : α) (s : Nat) (h : m cd pc = .ok (a, s)) : (f <$> m) cd pc = .ok (f a, s) := by
  show Except.bind (m cd pc) _ = _
  rw [h]
  rfl
theorem mb_u2r (cd : ByteArray) (pc : Nat) (x y : UInt8) (l : List UInt8) (h : mb_dr cd.data.toList pc = x :: y :: l) :
    (Jvm.ClassFile.Reader.u2 : mb_dR Nat) cd pc = .ok (x.toNat * 256 + y.toNat, pc + 2) := by
  have h1 := mb_u1r cd pc x _ h
  have h2 := mb_u1r cd (pc + 1) y _ h1.2
  refine (mb_bi _ _ cd pc _ _ h1.1).trans ?_
  refine (mb_bi _ _ cd (pc + 1) _ _ h2.1).trans ?_
  rfl
theorem mb_dec (cd : ByteArray) (pc q : Nat) (i : Instr) (h : Jvm.ClassFile.Decoder.instr pc cd pc = .ok (i, q)) : decode cd pc = .ok (i, q - pc) := by
  show Except.bind ((Jvm.ClassFile.Decoder.instr pc) cd pc) _ = _
  rw [h]
  rfl
/-- an opcode alone -/
def mb_P1 (k : Nat) (i : Instr) : Prop := ∀ (cd : ByteArray) (pc : Nat), (Jvm.ClassFile.Reader.u1 : mb_dR Nat) cd pc = .ok (k, pc + 1) → Jvm.ClassFile.Decoder.instr pc cd pc = .ok (i, pc + 1)
/-- an opcode and one unsigned byte -/
def mb_P2 (k : Nat) (f : Nat → Instr) : Prop := ∀ (cd : ByteArray) (pc n : Nat), (Jvm.ClassFile.Reader.u1 : mb_dR Nat) cd pc = .ok (k, pc + 1) → (Jvm.ClassFile.Reader.u1 : mb_dR Nat) cd (pc + 1) = .ok (n, pc + 2) → Jvm.ClassFile.Decoder.instr pc cd pc = .ok (f n, pc + 2)
/-- an opcode and two unsigned bytes -/
def mb_P3 (k : Nat) (f : Nat → Instr) : Prop := ∀ (cd : ByteArray) (pc n : Nat), (Jvm.ClassFile.Reader.u1 : mb_dR Nat) cd pc = .ok (k, pc + 1) → (Jvm.ClassFile.Reader.u2 : mb_dR Nat) cd (pc + 1) = .ok (n, pc + 3) → Jvm.ClassFile.Decoder.instr pc cd pc = .ok (f n, pc + 3)
/-- an opcode and two signed bytes -/
def mb_P4 (k : Nat) (f : Int → Instr) : Prop := ∀ (cd : ByteArray) (pc : Nat) (n : Int), (Jvm.ClassFile.Reader.u1 : mb_dR Nat) cd pc = .ok (k, pc + 1) → (Jvm.ClassFile.Reader.s2 : mb_dR Int) cd (pc + 1) = .ok (n, pc + 3) → Jvm.ClassFile.Decoder.instr pc cd pc = .ok (f n, pc + 3)
theorem mb_16 (cd : ByteArray) (pc : Nat) (n : Int) (h : (Jvm.ClassFile.Reader.u1 : mb_dR Nat) cd pc = .ok (16, pc + 1)) (g : (Jvm.ClassFile.Reader.s1 : mb_dR Int) cd (pc + 1) = .ok (n, pc + 2)) : Jvm.ClassFile.Decoder.instr pc cd pc = .ok (.bipush n, pc + 2) := by
  delta Jvm.ClassFile.Decoder.instr
  refine (mb_bi _ _ cd pc _ _ h).trans ?_
  refine (mb_bi Jvm.ClassFile.Reader.s1 (fun r => (pure (.bipush r) : mb_dR Instr)) cd (pc + 1) _ _ g).trans ?_
  rfl
theorem mb_132 (cd : ByteArray) (pc a : Nat) (n : Int) (h : (Jvm.ClassFile.Reader.u1 : mb_dR Nat) cd pc = .ok (132, pc + 1)) (f : (Jvm.ClassFile.Reader.u1 : mb_dR Nat) cd (pc + 1) = .ok (a, pc + 2)) (g : (Jvm.ClassFile.Reader.s1 : mb_dR Int) cd (pc + 2) = .ok (n, pc + 3)) : Jvm.ClassFile.Decoder.instr pc cd pc = .ok (.iinc a n, pc + 3) := by
  delta Jvm.ClassFile.Decoder.instr
  refine (mb_bi _ _ cd pc _ _ h).trans ?_
  refine (mb_bi Jvm.ClassFile.Reader.u1 (fun r => (Jvm.ClassFile.Reader.s1 >>= fun s => (pure (.iinc r s) : mb_dR Instr) : mb_dR Instr)) cd (pc + 1) _ _ f).trans ?_
  refine (mb_bi Jvm.ClassFile.Reader.s1 (fun s => (pure (.iinc a s) : mb_dR Instr)) cd (pc + 2) _ _ g).trans ?_
  rfl
theorem mb_188 (cd : ByteArray) (pc : Nat) (h : (Jvm.ClassFile.Reader.u1 : mb_dR Nat) cd pc = .ok (188, pc + 1)) (f : (Jvm.ClassFile.Reader.u1 : mb_dR Nat) cd (pc + 1) = .ok (10, pc + 2)) : Jvm.ClassFile.Decoder.instr pc cd pc = .ok (.newarray .int, pc + 2) := by
  delta Jvm.ClassFile.Decoder.instr
  refine (mb_bi _ _ cd pc _ _ h).trans ?_
  refine Eq.trans (b := Jvm.ClassFile.Decoder.newarray pc cd (pc + 1)) rfl ?_
  delta Jvm.ClassFile.Decoder.newarray
  refine (mb_bi Jvm.ClassFile.Reader.u1 _ cd (pc + 1) _ _ f).trans ?_
  rfl
/-- the checks, on the bytes alone -/
noncomputable def mb_c1 (cd : ByteArray) (pc k : Nat) : Bool :=
  List.casesOn (motive := fun _ => Bool) (mb_dr cd.data.toList pc) false (fun x _ => Nat.beq x.toNat k)
noncomputable def mb_c2 (cd : ByteArray) (pc k n : Nat) : Bool :=
  List.casesOn (motive := fun _ => Bool) (mb_dr cd.data.toList pc) false (fun x l => List.casesOn (motive := fun _ => Bool) l false (fun y _ => Nat.beq (x.toNat * 256 + y.toNat) (k * 256 + n)))
noncomputable def mb_c3 (cd : ByteArray) (pc k n : Nat) : Bool :=
  List.casesOn (motive := fun _ => Bool) (mb_dr cd.data.toList pc) false (fun x l => List.casesOn (motive := fun _ => Bool) l false (fun y l => List.casesOn (motive := fun _ => Bool) l false (fun z _ =>
    Nat.beq (x.toNat * 65536 + (y.toNat * 256 + z.toNat)) (k * 65536 + n))))
theorem mb_u8 (x : UInt8) : x.toNat < 256 := x.toBitVec.isLt
theorem mb_c1r (cd : ByteArray) (pc k : Nat) (h : mb_c1 cd pc k = true) : (Jvm.ClassFile.Reader.u1 : mb_dR Nat) cd pc = .ok (k, pc + 1) := by
  have h0 : mb_c1 cd pc k = List.casesOn (motive := fun _ => Bool) (mb_dr cd.data.toList pc) false (fun x _ => Nat.beq x.toNat k) := rfl
  rw [h0] at h
  rcases e : mb_dr cd.data.toList pc with _ | ⟨x, l⟩
  · rw [e] at h; exact absurd (show false = true from h) Bool.false_ne_true
  · rw [e] at h
    have h1 : x.toNat = k := Nat.eq_of_beq_eq_true h
    rw [← h1]; exact (mb_u1r cd pc x l e).1
theorem mb_c2r (cd : ByteArray) (pc k n : Nat) (hn : n < 256) (h : mb_c2 cd pc k n = true) : (Jvm.ClassFile.Reader.u1 : mb_dR Nat) cd pc = .ok (k, pc + 1) ∧ (Jvm.ClassFile.Reader.u1 : mb_dR Nat) cd (pc + 1) = .ok (n, pc + 2) := by
  have h0 : mb_c2 cd pc k n = List.casesOn (motive := fun _ => Bool) (mb_dr cd.data.toList pc) false (fun x l => List.casesOn (motive := fun _ => Bool) l false (fun y _ => Nat.beq (x.toNat * 256 + y.toNat) (k * 256 + n))) := rfl
  rw [h0] at h
  rcases e : mb_dr cd.data.toList pc with _ | ⟨x, _ | ⟨y, l⟩⟩
  · rw [e] at h; exact absurd (show false = true from h) Bool.false_ne_true
  · rw [e] at h; exact absurd (show false = true from h) Bool.false_ne_true
  · rw [e] at h
    have h1 : x.toNat * 256 + y.toNat = k * 256 + n := Nat.eq_of_beq_eq_true h
    have hy := mb_u8 y
    have e1 : x.toNat = k := by omega
    have e2 : y.toNat = n := by omega
    have g1 := mb_u1r cd pc x _ e
    have g2 := mb_u1r cd (pc + 1) y _ g1.2
    rw [← e1, ← e2]; exact ⟨g1.1, g2.1⟩
theorem mb_c3r (cd : ByteArray) (pc k n : Nat) (hn : n < 65536) (h : mb_c3 cd pc k n = true) : (Jvm.ClassFile.Reader.u1 : mb_dR Nat) cd pc = .ok (k, pc + 1) ∧ (Jvm.ClassFile.Reader.u2 : mb_dR Nat) cd (pc + 1) = .ok (n, pc + 3) ∧ (Jvm.ClassFile.Reader.u1 : mb_dR Nat) cd (pc + 1) = .ok (n / 256, pc + 2) ∧ (Jvm.ClassFile.Reader.u1 : mb_dR Nat) cd (pc + 2) = .ok (n % 256, pc + 3) := by
  have h0 : mb_c3 cd pc k n = List.casesOn (motive := fun _ => Bool) (mb_dr cd.data.toList pc) false (fun x l => List.casesOn (motive := fun _ => Bool) l false (fun y l => List.casesOn (motive := fun _ => Bool) l false (fun z _ => Nat.beq (x.toNat * 65536 + (y.toNat * 256 + z.toNat)) (k * 65536 + n)))) := rfl
  rw [h0] at h
  rcases e : mb_dr cd.data.toList pc with _ | ⟨x, _ | ⟨y, _ | ⟨z, l⟩⟩⟩
  · rw [e] at h; exact absurd (show false = true from h) Bool.false_ne_true
  · rw [e] at h; exact absurd (show false = true from h) Bool.false_ne_true
  · rw [e] at h; exact absurd (show false = true from h) Bool.false_ne_true
  · rw [e] at h
    have h1 : x.toNat * 65536 + (y.toNat * 256 + z.toNat) = k * 65536 + n := Nat.eq_of_beq_eq_true h
    have hy := mb_u8 y
    have hz := mb_u8 z
    have e1 : x.toNat = k := by omega
    rw [e1] at h1
    have e2 : y.toNat * 256 + z.toNat = n := Nat.add_left_cancel h1
    have e3 : y.toNat = n / 256 := by omega
    have e4 : z.toNat = n % 256 := by omega
    have g1 := mb_u1r cd pc x _ e
    have g2 := mb_u1r cd (pc + 1) y _ g1.2
    have g3 := mb_u1r cd (pc + 1 + 1) z _ g2.2
    have g4 := mb_u2r cd (pc + 1) y z _ g1.2
    refine ⟨by rw [← e1]; exact g1.1, by rw [← e2]; exact g4, by rw [← e3]; exact g2.1, by rw [← e4]; exact g3.1⟩
theorem mb_sg8 (v : Nat) (n : Int) (h : (bif Nat.ble 128 v then decide ((v : Int) = n + 256) else decide ((v : Int) = n)) = true) : Jvm.ClassFile.Reader.signed 8 v = n := by
  unfold Jvm.ClassFile.Reader.signed
  rcases Nat.lt_or_ge v 128 with g | g
  · have e : Nat.ble 128 v = false := by
      rcases e : Nat.ble 128 v with _ | _
      · rfl
      · have := Nat.le_of_ble_eq_true e; omega
    rw [e] at h
    have h1 : (v : Int) = n := of_decide_eq_true h
    rw [if_pos (by omega)]; omega
  · have e : Nat.ble 128 v = true := Nat.ble_eq_true_of_le g
    rw [e] at h
    have h1 : (v : Int) = n + 256 := of_decide_eq_true h
    rw [if_neg (by omega)]; omega
theorem mb_sg16 (v : Nat) (n : Int) (h : (bif Nat.ble 32768 v then decide ((v : Int) = n + 65536) else decide ((v : Int) = n)) = true) : Jvm.ClassFile.Reader.signed 16 v = n := by
  unfold Jvm.ClassFile.Reader.signed
  rcases Nat.lt_or_ge v 32768 with g | g
  · have e : Nat.ble 32768 v = false := by
      rcases e : Nat.ble 32768 v with _ | _
      · rfl
      · have := Nat.le_of_ble_eq_true e; omega
    rw [e] at h
    have h1 : (v : Int) = n := of_decide_eq_true h
    rw [if_pos (by omega)]; omega
  · have e : Nat.ble 32768 v = true := Nat.ble_eq_true_of_le g
    rw [e] at h
    have h1 : (v : Int) = n + 65536 := of_decide_eq_true h
    rw [if_neg (by omega)]; omega
theorem mb_br (pc v t : Nat) (h : (bif Nat.ble 32768 v then Nat.beq (pc + v) (t + 65536) else Nat.beq (pc + v) t) = true) : Jvm.ClassFile.Reader.signed 16 v = (t : Int) - pc := by
  unfold Jvm.ClassFile.Reader.signed
  rcases Nat.lt_or_ge v 32768 with g | g
  · have e : Nat.ble 32768 v = false := by
      rcases e : Nat.ble 32768 v with _ | _
      · rfl
      · have := Nat.le_of_ble_eq_true e; omega
    rw [e] at h
    have h1 : pc + v = t := Nat.eq_of_beq_eq_true h
    rw [if_pos (by omega)]; omega
  · have e : Nat.ble 32768 v = true := Nat.ble_eq_true_of_le g
    rw [e] at h
    have h1 : pc + v = t + 65536 := Nat.eq_of_beq_eq_true h
    rw [if_neg (by omega)]; omega
theorem mb_an {a b : Bool} (h : (a && b) = true) : a = true ∧ b = true := by
  cases a <;> cases b <;> first | exact ⟨rfl, rfl⟩ | exact absurd h Bool.false_ne_true
theorem mb_t1 {k : Nat} {i : Instr} (H : mb_P1 k i) (cd : ByteArray) (pc : Nat) (h : mb_c1 cd pc k = true) : mm_D cd pc (pc + 1) i :=
  ⟨mb_dec cd pc (pc + 1) i (H cd pc (mb_c1r cd pc k h)), Nat.lt_succ_self pc⟩
theorem mb_t2 {k : Nat} {f : Nat → Instr} (H : mb_P2 k f) (cd : ByteArray) (pc n : Nat) (h : (Nat.blt n 256 && mb_c2 cd pc k n) = true) : mm_D cd pc (pc + 2) (f n) :=
  have h1 := mb_an h
  have h2 := mb_c2r cd pc k n (Nat.le_of_ble_eq_true h1.1) h1.2
  ⟨mb_dec cd pc (pc + 2) _ (H cd pc n h2.1 h2.2), by omega⟩
theorem mb_t3 {k : Nat} {f : Nat → Instr} (H : mb_P3 k f) (cd : ByteArray) (pc n : Nat) (h : (Nat.blt n 65536 && mb_c3 cd pc k n) = true) : mm_D cd pc (pc + 3) (f n) :=
  have h1 := mb_an h
  have h2 := mb_c3r cd pc k n (Nat.le_of_ble_eq_true h1.1) h1.2
  ⟨mb_dec cd pc (pc + 3) _ (H cd pc n h2.1 h2.2.1), by omega⟩
theorem mb_t4 {k : Nat} {f : Int → Instr} (H : mb_P4 k f) (cd : ByteArray) (pc n : Nat) (t : Int) (h : (Nat.blt n 65536 && mb_c3 cd pc k n) = true) (g : Jvm.ClassFile.Reader.signed 16 n = t) : decode cd pc = .ok (f t, 3) := by
  have h1 := mb_an h
  have h2 := mb_c3r cd pc k n (Nat.le_of_ble_eq_true h1.1) h1.2
  have h3 := mb_ma Jvm.ClassFile.Reader.u2 (Jvm.ClassFile.Reader.signed 16) cd (pc + 1) _ _ h2.2.1
  rw [g] at h3
  have h4 := mb_dec cd pc (pc + 3) _ (H cd pc t h2.1 h3)
  rw [Nat.add_sub_cancel_left] at h4
  exact h4
theorem mb_tz {k : Nat} {c : Jvm.ClassFile.Cond} (H : mb_P4 k (.ifCond c)) (cd : ByteArray) (pc n t : Nat) (h : ((Nat.blt n 65536 && mb_c3 cd pc k n) && (bif Nat.ble 32768 n then Nat.beq (pc + n) (t + 65536) else Nat.beq (pc + n) t)) = true) : mm_Bz cd pc (pc + 3) t c :=
  have h1 := mb_an h
  ⟨mb_t4 H cd pc n _ h1.1 (mb_br pc n t h1.2), rfl⟩
theorem mb_ti {k : Nat} {c : Jvm.ClassFile.Cond} (H : mb_P4 k (.if_icmp c)) (cd : ByteArray) (pc n t : Nat) (h : ((Nat.blt n 65536 && mb_c3 cd pc k n) && (bif Nat.ble 32768 n then Nat.beq (pc + n) (t + 65536) else Nat.beq (pc + n) t)) = true) : mm_Bi cd pc (pc + 3) t c :=
  have h1 := mb_an h
  ⟨mb_t4 H cd pc n _ h1.1 (mb_br pc n t h1.2), rfl⟩
theorem mb_tg (H : mb_P4 167 .goto) (cd : ByteArray) (pc n t : Nat) (h : ((Nat.blt n 65536 && mb_c3 cd pc 167 n) && (bif Nat.ble 32768 n then Nat.beq (pc + n) (t + 65536) else Nat.beq (pc + n) t)) = true) : mm_Bg cd pc t :=
  have h1 := mb_an h
  mb_t4 H cd pc n _ h1.1 (mb_br pc n t h1.2)
theorem mb_tb (cd : ByteArray) (pc n : Nat) (t : Int) (h : ((Nat.blt n 256 && mb_c2 cd pc 16 n) && (bif Nat.ble 128 n then decide ((n : Int) = t + 256) else decide ((n : Int) = t))) = true) : mm_D cd pc (pc + 2) (.bipush t) := by
  have h1 := mb_an h
  have h2 := mb_an h1.1
  have h3 := mb_c2r cd pc 16 n (Nat.le_of_ble_eq_true h2.1) h2.2
  have h4 := mb_ma Jvm.ClassFile.Reader.u1 (Jvm.ClassFile.Reader.signed 8) cd (pc + 1) _ _ h3.2
  rw [mb_sg8 n t h1.2] at h4
  exact ⟨mb_dec cd pc (pc + 2) _ (mb_16 cd pc t h3.1 h4), by omega⟩
theorem mb_ts (H : mb_P4 17 .sipush) (cd : ByteArray) (pc n : Nat) (t : Int) (h : ((Nat.blt n 65536 && mb_c3 cd pc 17 n) && (bif Nat.ble 32768 n then decide ((n : Int) = t + 65536) else decide ((n : Int) = t))) = true) : mm_D cd pc (pc + 3) (.sipush t) := by
  have h1 := mb_an h
  have h2 := mb_an h1.1
  have h3 := mb_c3r cd pc 17 n (Nat.le_of_ble_eq_true h2.1) h2.2
  have h4 := mb_ma Jvm.ClassFile.Reader.u2 (Jvm.ClassFile.Reader.signed 16) cd (pc + 1) _ _ h3.2.1
  rw [mb_sg16 n t h1.2] at h4
  exact ⟨mb_dec cd pc (pc + 3) _ (H cd pc t h3.1 h4), by omega⟩
theorem mb_tc (cd : ByteArray) (pc a n : Nat) (t : Int) (h : ((Nat.blt (a * 256 + n) 65536 && mb_c3 cd pc 132 (a * 256 + n)) && (Nat.blt n 256 && (bif Nat.ble 128 n then decide ((n : Int) = t + 256) else decide ((n : Int) = t)))) = true) : mm_D cd pc (pc + 3) (.iinc a t) := by
  have h1 := mb_an h
  have h2 := mb_an h1.1
  have h5 := mb_an h1.2
  have h3 := mb_c3r cd pc 132 (a * 256 + n) (Nat.le_of_ble_eq_true h2.1) h2.2
  have hn : n < 256 := Nat.le_of_ble_eq_true h5.1
  have e1 : (a * 256 + n) / 256 = a := by omega
  have e2 : (a * 256 + n) % 256 = n := by omega
  rw [e1, e2] at h3
  have h4 := mb_ma Jvm.ClassFile.Reader.u1 (Jvm.ClassFile.Reader.signed 8) cd (pc + 2) _ _ h3.2.2.2
  rw [mb_sg8 n t h5.2] at h4
  exact ⟨mb_dec cd pc (pc + 3) _ (mb_132 cd pc a t h3.1 h3.2.2.1 h4), by omega⟩
theorem mb_tn (cd : ByteArray) (pc : Nat) (h : (mb_c2 cd pc 188 10) = true) : mm_D cd pc (pc + 2) (.newarray .int) :=
  have h2 := mb_c2r cd pc 188 10 (by omega) h
  ⟨mb_dec cd pc (pc + 2) _ (mb_188 cd pc h2.1 h2.2), by omega⟩
theorem mb_k1 : mb_P1 1 (.aconst_null) := by
  intro cd pc h
  delta Jvm.ClassFile.Decoder.instr
  refine (mb_bi _ _ cd pc _ _ h).trans ?_
  rfl
theorem mb_k2 : mb_P1 2 (.iconst (-1)) := by
  intro cd pc h
  delta Jvm.ClassFile.Decoder.instr
  refine (mb_bi _ _ cd pc _ _ h).trans ?_
  rfl
theorem mb_k3 : mb_P1 3 (.iconst 0) := by
  intro cd pc h
  delta Jvm.ClassFile.Decoder.instr
  refine (mb_bi _ _ cd pc _ _ h).trans ?_
  rfl
theorem mb_k4 : mb_P1 4 (.iconst 1) := by
  intro cd pc h
  delta Jvm.ClassFile.Decoder.instr
  refine (mb_bi _ _ cd pc _ _ h).trans ?_
  rfl
theorem mb_k5 : mb_P1 5 (.iconst 2) := by
  intro cd pc h
  delta Jvm.ClassFile.Decoder.instr
  refine (mb_bi _ _ cd pc _ _ h).trans ?_
  rfl
theorem mb_k6 : mb_P1 6 (.iconst 3) := by
  intro cd pc h
  delta Jvm.ClassFile.Decoder.instr
  refine (mb_bi _ _ cd pc _ _ h).trans ?_
  rfl
theorem mb_k7 : mb_P1 7 (.iconst 4) := by
  intro cd pc h
  delta Jvm.ClassFile.Decoder.instr
  refine (mb_bi _ _ cd pc _ _ h).trans ?_
  rfl
theorem mb_k8 : mb_P1 8 (.iconst 5) := by
  intro cd pc h
  delta Jvm.ClassFile.Decoder.instr
  refine (mb_bi _ _ cd pc _ _ h).trans ?_
  rfl
theorem mb_k9 : mb_P1 9 (.lconst 0) := by
  intro cd pc h
  delta Jvm.ClassFile.Decoder.instr
  refine (mb_bi _ _ cd pc _ _ h).trans ?_
  rfl
theorem mb_k10 : mb_P1 10 (.lconst 1) := by
  intro cd pc h
  delta Jvm.ClassFile.Decoder.instr
  refine (mb_bi _ _ cd pc _ _ h).trans ?_
  rfl
theorem mb_k17 : mb_P4 17 .sipush := by
  intro cd pc n h g
  delta Jvm.ClassFile.Decoder.instr
  refine (mb_bi _ _ cd pc _ _ h).trans ?_
  refine (mb_bi Jvm.ClassFile.Reader.s2 (fun r => (pure (.sipush r) : mb_dR Instr)) cd (pc + 1) _ _ g).trans ?_
  rfl
theorem mb_k18 : mb_P2 18 .ldc := by
  intro cd pc n h g
  delta Jvm.ClassFile.Decoder.instr
  refine (mb_bi _ _ cd pc _ _ h).trans ?_
  refine (mb_bi Jvm.ClassFile.Reader.u1 (fun r => (pure (.ldc r) : mb_dR Instr)) cd (pc + 1) _ _ g).trans ?_
  rfl
theorem mb_k19 : mb_P3 19 .ldc_w := by
  intro cd pc n h g
  delta Jvm.ClassFile.Decoder.instr
  refine (mb_bi _ _ cd pc _ _ h).trans ?_
  refine (mb_bi Jvm.ClassFile.Reader.u2 (fun r => (pure (.ldc_w r) : mb_dR Instr)) cd (pc + 1) _ _ g).trans ?_
  rfl
theorem mb_k20 : mb_P3 20 .ldc2_w := by
  intro cd pc n h g
  delta Jvm.ClassFile.Decoder.instr
  refine (mb_bi _ _ cd pc _ _ h).trans ?_
  refine (mb_bi Jvm.ClassFile.Reader.u2 (fun r => (pure (.ldc2_w r) : mb_dR Instr)) cd (pc + 1) _ _ g).trans ?_
  rfl
theorem mb_k21 : mb_P2 21 .iload := by
  intro cd pc n h g
  delta Jvm.ClassFile.Decoder.instr
  refine (mb_bi _ _ cd pc _ _ h).trans ?_
  refine (mb_bi Jvm.ClassFile.Reader.u1 (fun r => (pure (.iload r) : mb_dR Instr)) cd (pc + 1) _ _ g).trans ?_
  rfl
theorem mb_k22 : mb_P2 22 .lload := by
  intro cd pc n h g
  delta Jvm.ClassFile.Decoder.instr
  refine (mb_bi _ _ cd pc _ _ h).trans ?_
  refine (mb_bi Jvm.ClassFile.Reader.u1 (fun r => (pure (.lload r) : mb_dR Instr)) cd (pc + 1) _ _ g).trans ?_
  rfl
theorem mb_k25 : mb_P2 25 .aload := by
  intro cd pc n h g
  delta Jvm.ClassFile.Decoder.instr
  refine (mb_bi _ _ cd pc _ _ h).trans ?_
  refine (mb_bi Jvm.ClassFile.Reader.u1 (fun r => (pure (.aload r) : mb_dR Instr)) cd (pc + 1) _ _ g).trans ?_
  rfl
theorem mb_k26 : mb_P1 26 (.iload_n 0) := by
  intro cd pc h
  delta Jvm.ClassFile.Decoder.instr
  refine (mb_bi _ _ cd pc _ _ h).trans ?_
  rfl
theorem mb_k27 : mb_P1 27 (.iload_n 1) := by
  intro cd pc h
  delta Jvm.ClassFile.Decoder.instr
  refine (mb_bi _ _ cd pc _ _ h).trans ?_
  rfl
theorem mb_k28 : mb_P1 28 (.iload_n 2) := by
  intro cd pc h
  delta Jvm.ClassFile.Decoder.instr
  refine (mb_bi _ _ cd pc _ _ h).trans ?_
  rfl
theorem mb_k29 : mb_P1 29 (.iload_n 3) := by
  intro cd pc h
  delta Jvm.ClassFile.Decoder.instr
  refine (mb_bi _ _ cd pc _ _ h).trans ?_
  rfl
theorem mb_k30 : mb_P1 30 (.lload_n 0) := by
  intro cd pc h
  delta Jvm.ClassFile.Decoder.instr
  refine (mb_bi _ _ cd pc _ _ h).trans ?_
  rfl
theorem mb_k32 : mb_P1 32 (.lload_n 2) := by
  intro cd pc h
  delta Jvm.ClassFile.Decoder.instr
  refine (mb_bi _ _ cd pc _ _ h).trans ?_
  rfl
theorem mb_k33 : mb_P1 33 (.lload_n 3) := by
  intro cd pc h
  delta Jvm.ClassFile.Decoder.instr
  refine (mb_bi _ _ cd pc _ _ h).trans ?_
  rfl
theorem mb_k42 : mb_P1 42 (.aload_n 0) := by
  intro cd pc h
  delta Jvm.ClassFile.Decoder.instr
  refine (mb_bi _ _ cd pc _ _ h).trans ?_
  rfl
theorem mb_k43 : mb_P1 43 (.aload_n 1) := by
  intro cd pc h
  delta Jvm.ClassFile.Decoder.instr
  refine (mb_bi _ _ cd pc _ _ h).trans ?_
  rfl
theorem mb_k44 : mb_P1 44 (.aload_n 2) := by
  intro cd pc h
  delta Jvm.ClassFile.Decoder.instr
  refine (mb_bi _ _ cd pc _ _ h).trans ?_
  rfl
theorem mb_k45 : mb_P1 45 (.aload_n 3) := by
  intro cd pc h
  delta Jvm.ClassFile.Decoder.instr
  refine (mb_bi _ _ cd pc _ _ h).trans ?_
  rfl
theorem mb_k46 : mb_P1 46 (.iaload) := by
  intro cd pc h
  delta Jvm.ClassFile.Decoder.instr
  refine (mb_bi _ _ cd pc _ _ h).trans ?_
  rfl
theorem mb_k47 : mb_P1 47 (.laload) := by
  intro cd pc h
  delta Jvm.ClassFile.Decoder.instr
  refine (mb_bi _ _ cd pc _ _ h).trans ?_
  rfl
theorem mb_k50 : mb_P1 50 (.aaload) := by
  intro cd pc h
  delta Jvm.ClassFile.Decoder.instr
  refine (mb_bi _ _ cd pc _ _ h).trans ?_
  rfl
theorem mb_k51 : mb_P1 51 (.baload) := by
  intro cd pc h
  delta Jvm.ClassFile.Decoder.instr
  refine (mb_bi _ _ cd pc _ _ h).trans ?_
  rfl
theorem mb_k54 : mb_P2 54 .istore := by
  intro cd pc n h g
  delta Jvm.ClassFile.Decoder.instr
  refine (mb_bi _ _ cd pc _ _ h).trans ?_
  refine (mb_bi Jvm.ClassFile.Reader.u1 (fun r => (pure (.istore r) : mb_dR Instr)) cd (pc + 1) _ _ g).trans ?_
  rfl
theorem mb_k55 : mb_P2 55 .lstore := by
  intro cd pc n h g
  delta Jvm.ClassFile.Decoder.instr
  refine (mb_bi _ _ cd pc _ _ h).trans ?_
  refine (mb_bi Jvm.ClassFile.Reader.u1 (fun r => (pure (.lstore r) : mb_dR Instr)) cd (pc + 1) _ _ g).trans ?_
  rfl
theorem mb_k58 : mb_P2 58 .astore := by
  intro cd pc n h g
  delta Jvm.ClassFile.Decoder.instr
  refine (mb_bi _ _ cd pc _ _ h).trans ?_
  refine (mb_bi Jvm.ClassFile.Reader.u1 (fun r => (pure (.astore r) : mb_dR Instr)) cd (pc + 1) _ _ g).trans ?_
  rfl
theorem mb_k59 : mb_P1 59 (.istore_n 0) := by
  intro cd pc h
  delta Jvm.ClassFile.Decoder.instr
  refine (mb_bi _ _ cd pc _ _ h).trans ?_
  rfl
theorem mb_k60 : mb_P1 60 (.istore_n 1) := by
  intro cd pc h
  delta Jvm.ClassFile.Decoder.instr
  refine (mb_bi _ _ cd pc _ _ h).trans ?_
  rfl
theorem mb_k61 : mb_P1 61 (.istore_n 2) := by
  intro cd pc h
  delta Jvm.ClassFile.Decoder.instr
  refine (mb_bi _ _ cd pc _ _ h).trans ?_
  rfl
theorem mb_k62 : mb_P1 62 (.istore_n 3) := by
  intro cd pc h
  delta Jvm.ClassFile.Decoder.instr
  refine (mb_bi _ _ cd pc _ _ h).trans ?_
  rfl
theorem mb_k65 : mb_P1 65 (.lstore_n 2) := by
  intro cd pc h
  delta Jvm.ClassFile.Decoder.instr
  refine (mb_bi _ _ cd pc _ _ h).trans ?_
  rfl
theorem mb_k66 : mb_P1 66 (.lstore_n 3) := by
  intro cd pc h
  delta Jvm.ClassFile.Decoder.instr
  refine (mb_bi _ _ cd pc _ _ h).trans ?_
  rfl
theorem mb_k76 : mb_P1 76 (.astore_n 1) := by
  intro cd pc h
  delta Jvm.ClassFile.Decoder.instr
  refine (mb_bi _ _ cd pc _ _ h).trans ?_
  rfl
theorem mb_k77 : mb_P1 77 (.astore_n 2) := by
  intro cd pc h
  delta Jvm.ClassFile.Decoder.instr
  refine (mb_bi _ _ cd pc _ _ h).trans ?_
  rfl
theorem mb_k79 : mb_P1 79 (.iastore) := by
  intro cd pc h
  delta Jvm.ClassFile.Decoder.instr
  refine (mb_bi _ _ cd pc _ _ h).trans ?_
  rfl
theorem mb_k80 : mb_P1 80 (.lastore) := by
  intro cd pc h
  delta Jvm.ClassFile.Decoder.instr
  refine (mb_bi _ _ cd pc _ _ h).trans ?_
  rfl
theorem mb_k83 : mb_P1 83 (.aastore) := by
  intro cd pc h
  delta Jvm.ClassFile.Decoder.instr
  refine (mb_bi _ _ cd pc _ _ h).trans ?_
  rfl
theorem mb_k84 : mb_P1 84 (.bastore) := by
  intro cd pc h
  delta Jvm.ClassFile.Decoder.instr
  refine (mb_bi _ _ cd pc _ _ h).trans ?_
  rfl
theorem mb_k87 : mb_P1 87 (.pop) := by
  intro cd pc h
  delta Jvm.ClassFile.Decoder.instr
  refine (mb_bi _ _ cd pc _ _ h).trans ?_
  rfl
theorem mb_k89 : mb_P1 89 (.dup) := by
  intro cd pc h
  delta Jvm.ClassFile.Decoder.instr
  refine (mb_bi _ _ cd pc _ _ h).trans ?_
  rfl
theorem mb_k92 : mb_P1 92 (.dup2) := by
  intro cd pc h
  delta Jvm.ClassFile.Decoder.instr
  refine (mb_bi _ _ cd pc _ _ h).trans ?_
  rfl
theorem mb_k96 : mb_P1 96 (.iadd) := by
  intro cd pc h
  delta Jvm.ClassFile.Decoder.instr
  refine (mb_bi _ _ cd pc _ _ h).trans ?_
  rfl
theorem mb_k97 : mb_P1 97 (.ladd) := by
  intro cd pc h
  delta Jvm.ClassFile.Decoder.instr
  refine (mb_bi _ _ cd pc _ _ h).trans ?_
  rfl
theorem mb_k100 : mb_P1 100 (.isub) := by
  intro cd pc h
  delta Jvm.ClassFile.Decoder.instr
  refine (mb_bi _ _ cd pc _ _ h).trans ?_
  rfl
theorem mb_k101 : mb_P1 101 (.lsub) := by
  intro cd pc h
  delta Jvm.ClassFile.Decoder.instr
  refine (mb_bi _ _ cd pc _ _ h).trans ?_
  rfl
theorem mb_k104 : mb_P1 104 (.imul) := by
  intro cd pc h
  delta Jvm.ClassFile.Decoder.instr
  refine (mb_bi _ _ cd pc _ _ h).trans ?_
  rfl
theorem mb_k105 : mb_P1 105 (.lmul) := by
  intro cd pc h
  delta Jvm.ClassFile.Decoder.instr
  refine (mb_bi _ _ cd pc _ _ h).trans ?_
  rfl
theorem mb_k108 : mb_P1 108 (.idiv) := by
  intro cd pc h
  delta Jvm.ClassFile.Decoder.instr
  refine (mb_bi _ _ cd pc _ _ h).trans ?_
  rfl
theorem mb_k109 : mb_P1 109 (.ldiv) := by
  intro cd pc h
  delta Jvm.ClassFile.Decoder.instr
  refine (mb_bi _ _ cd pc _ _ h).trans ?_
  rfl
theorem mb_k112 : mb_P1 112 (.irem) := by
  intro cd pc h
  delta Jvm.ClassFile.Decoder.instr
  refine (mb_bi _ _ cd pc _ _ h).trans ?_
  rfl
theorem mb_k116 : mb_P1 116 (.ineg) := by
  intro cd pc h
  delta Jvm.ClassFile.Decoder.instr
  refine (mb_bi _ _ cd pc _ _ h).trans ?_
  rfl
theorem mb_k120 : mb_P1 120 (.ishl) := by
  intro cd pc h
  delta Jvm.ClassFile.Decoder.instr
  refine (mb_bi _ _ cd pc _ _ h).trans ?_
  rfl
theorem mb_k122 : mb_P1 122 (.ishr) := by
  intro cd pc h
  delta Jvm.ClassFile.Decoder.instr
  refine (mb_bi _ _ cd pc _ _ h).trans ?_
  rfl
theorem mb_k124 : mb_P1 124 (.iushr) := by
  intro cd pc h
  delta Jvm.ClassFile.Decoder.instr
  refine (mb_bi _ _ cd pc _ _ h).trans ?_
  rfl
theorem mb_k126 : mb_P1 126 (.iand) := by
  intro cd pc h
  delta Jvm.ClassFile.Decoder.instr
  refine (mb_bi _ _ cd pc _ _ h).trans ?_
  rfl
theorem mb_k128 : mb_P1 128 (.ior) := by
  intro cd pc h
  delta Jvm.ClassFile.Decoder.instr
  refine (mb_bi _ _ cd pc _ _ h).trans ?_
  rfl
theorem mb_k133 : mb_P1 133 (.i2l) := by
  intro cd pc h
  delta Jvm.ClassFile.Decoder.instr
  refine (mb_bi _ _ cd pc _ _ h).trans ?_
  rfl
theorem mb_k136 : mb_P1 136 (.l2i) := by
  intro cd pc h
  delta Jvm.ClassFile.Decoder.instr
  refine (mb_bi _ _ cd pc _ _ h).trans ?_
  rfl
theorem mb_k145 : mb_P1 145 (.i2b) := by
  intro cd pc h
  delta Jvm.ClassFile.Decoder.instr
  refine (mb_bi _ _ cd pc _ _ h).trans ?_
  rfl
theorem mb_k146 : mb_P1 146 (.i2c) := by
  intro cd pc h
  delta Jvm.ClassFile.Decoder.instr
  refine (mb_bi _ _ cd pc _ _ h).trans ?_
  rfl
theorem mb_k148 : mb_P1 148 (.lcmp) := by
  intro cd pc h
  delta Jvm.ClassFile.Decoder.instr
  refine (mb_bi _ _ cd pc _ _ h).trans ?_
  rfl
theorem mb_k153 : mb_P4 153 (.ifCond .eq) := by
  intro cd pc n h g
  delta Jvm.ClassFile.Decoder.instr
  refine (mb_bi _ _ cd pc _ _ h).trans ?_
  refine (mb_bi Jvm.ClassFile.Reader.s2 (fun r => (pure (.ifCond .eq r) : mb_dR Instr)) cd (pc + 1) _ _ g).trans ?_
  rfl
theorem mb_k154 : mb_P4 154 (.ifCond .ne) := by
  intro cd pc n h g
  delta Jvm.ClassFile.Decoder.instr
  refine (mb_bi _ _ cd pc _ _ h).trans ?_
  refine (mb_bi Jvm.ClassFile.Reader.s2 (fun r => (pure (.ifCond .ne r) : mb_dR Instr)) cd (pc + 1) _ _ g).trans ?_
  rfl
theorem mb_k155 : mb_P4 155 (.ifCond .lt) := by
  intro cd pc n h g
  delta Jvm.ClassFile.Decoder.instr
  refine (mb_bi _ _ cd pc _ _ h).trans ?_
  refine (mb_bi Jvm.ClassFile.Reader.s2 (fun r => (pure (.ifCond .lt r) : mb_dR Instr)) cd (pc + 1) _ _ g).trans ?_
  rfl
theorem mb_k156 : mb_P4 156 (.ifCond .ge) := by
  intro cd pc n h g
  delta Jvm.ClassFile.Decoder.instr
  refine (mb_bi _ _ cd pc _ _ h).trans ?_
  refine (mb_bi Jvm.ClassFile.Reader.s2 (fun r => (pure (.ifCond .ge r) : mb_dR Instr)) cd (pc + 1) _ _ g).trans ?_
  rfl
theorem mb_k157 : mb_P4 157 (.ifCond .gt) := by
  intro cd pc n h g
  delta Jvm.ClassFile.Decoder.instr
  refine (mb_bi _ _ cd pc _ _ h).trans ?_
  refine (mb_bi Jvm.ClassFile.Reader.s2 (fun r => (pure (.ifCond .gt r) : mb_dR Instr)) cd (pc + 1) _ _ g).trans ?_
  rfl
theorem mb_k158 : mb_P4 158 (.ifCond .le) := by
  intro cd pc n h g
  delta Jvm.ClassFile.Decoder.instr
  refine (mb_bi _ _ cd pc _ _ h).trans ?_
  refine (mb_bi Jvm.ClassFile.Reader.s2 (fun r => (pure (.ifCond .le r) : mb_dR Instr)) cd (pc + 1) _ _ g).trans ?_
  rfl
theorem mb_k159 : mb_P4 159 (.if_icmp .eq) := by
  intro cd pc n h g
  delta Jvm.ClassFile.Decoder.instr
  refine (mb_bi _ _ cd pc _ _ h).trans ?_
  refine (mb_bi Jvm.ClassFile.Reader.s2 (fun r => (pure (.if_icmp .eq r) : mb_dR Instr)) cd (pc + 1) _ _ g).trans ?_
  rfl
theorem mb_k160 : mb_P4 160 (.if_icmp .ne) := by
  intro cd pc n h g
  delta Jvm.ClassFile.Decoder.instr
  refine (mb_bi _ _ cd pc _ _ h).trans ?_
  refine (mb_bi Jvm.ClassFile.Reader.s2 (fun r => (pure (.if_icmp .ne r) : mb_dR Instr)) cd (pc + 1) _ _ g).trans ?_
  rfl
theorem mb_k161 : mb_P4 161 (.if_icmp .lt) := by
  intro cd pc n h g
  delta Jvm.ClassFile.Decoder.instr
  refine (mb_bi _ _ cd pc _ _ h).trans ?_
  refine (mb_bi Jvm.ClassFile.Reader.s2 (fun r => (pure (.if_icmp .lt r) : mb_dR Instr)) cd (pc + 1) _ _ g).trans ?_
  rfl
theorem mb_k162 : mb_P4 162 (.if_icmp .ge) := by
  intro cd pc n h g
  delta Jvm.ClassFile.Decoder.instr
  refine (mb_bi _ _ cd pc _ _ h).trans ?_
  refine (mb_bi Jvm.ClassFile.Reader.s2 (fun r => (pure (.if_icmp .ge r) : mb_dR Instr)) cd (pc + 1) _ _ g).trans ?_
  rfl
theorem mb_k163 : mb_P4 163 (.if_icmp .gt) := by
  intro cd pc n h g
  delta Jvm.ClassFile.Decoder.instr
  refine (mb_bi _ _ cd pc _ _ h).trans ?_
  refine (mb_bi Jvm.ClassFile.Reader.s2 (fun r => (pure (.if_icmp .gt r) : mb_dR Instr)) cd (pc + 1) _ _ g).trans ?_
  rfl
theorem mb_k164 : mb_P4 164 (.if_icmp .le) := by
  intro cd pc n h g
  delta Jvm.ClassFile.Decoder.instr
  refine (mb_bi _ _ cd pc _ _ h).trans ?_
  refine (mb_bi Jvm.ClassFile.Reader.s2 (fun r => (pure (.if_icmp .le r) : mb_dR Instr)) cd (pc + 1) _ _ g).trans ?_
  rfl
theorem mb_k167 : mb_P4 167 .goto := by
  intro cd pc n h g
  delta Jvm.ClassFile.Decoder.instr
  refine (mb_bi _ _ cd pc _ _ h).trans ?_
  refine (mb_bi Jvm.ClassFile.Reader.s2 (fun r => (pure (.goto r) : mb_dR Instr)) cd (pc + 1) _ _ g).trans ?_
  rfl
theorem mb_k172 : mb_P1 172 (.ireturn) := by
  intro cd pc h
  delta Jvm.ClassFile.Decoder.instr
  refine (mb_bi _ _ cd pc _ _ h).trans ?_
  rfl
theorem mb_k173 : mb_P1 173 (.lreturn) := by
  intro cd pc h
  delta Jvm.ClassFile.Decoder.instr
  refine (mb_bi _ _ cd pc _ _ h).trans ?_
  rfl
theorem mb_k176 : mb_P1 176 (.areturn) := by
  intro cd pc h
  delta Jvm.ClassFile.Decoder.instr
  refine (mb_bi _ _ cd pc _ _ h).trans ?_
  rfl
theorem mb_k177 : mb_P1 177 (.return_) := by
  intro cd pc h
  delta Jvm.ClassFile.Decoder.instr
  refine (mb_bi _ _ cd pc _ _ h).trans ?_
  rfl
theorem mb_k178 : mb_P3 178 .getstatic := by
  intro cd pc n h g
  delta Jvm.ClassFile.Decoder.instr
  refine (mb_bi _ _ cd pc _ _ h).trans ?_
  refine (mb_bi Jvm.ClassFile.Reader.u2 (fun r => (pure (.getstatic r) : mb_dR Instr)) cd (pc + 1) _ _ g).trans ?_
  rfl
theorem mb_k180 : mb_P3 180 .getfield := by
  intro cd pc n h g
  delta Jvm.ClassFile.Decoder.instr
  refine (mb_bi _ _ cd pc _ _ h).trans ?_
  refine (mb_bi Jvm.ClassFile.Reader.u2 (fun r => (pure (.getfield r) : mb_dR Instr)) cd (pc + 1) _ _ g).trans ?_
  rfl
theorem mb_k181 : mb_P3 181 .putfield := by
  intro cd pc n h g
  delta Jvm.ClassFile.Decoder.instr
  refine (mb_bi _ _ cd pc _ _ h).trans ?_
  refine (mb_bi Jvm.ClassFile.Reader.u2 (fun r => (pure (.putfield r) : mb_dR Instr)) cd (pc + 1) _ _ g).trans ?_
  rfl
theorem mb_k182 : mb_P3 182 .invokevirtual := by
  intro cd pc n h g
  delta Jvm.ClassFile.Decoder.instr
  refine (mb_bi _ _ cd pc _ _ h).trans ?_
  refine (mb_bi Jvm.ClassFile.Reader.u2 (fun r => (pure (.invokevirtual r) : mb_dR Instr)) cd (pc + 1) _ _ g).trans ?_
  rfl
theorem mb_k183 : mb_P3 183 .invokespecial := by
  intro cd pc n h g
  delta Jvm.ClassFile.Decoder.instr
  refine (mb_bi _ _ cd pc _ _ h).trans ?_
  refine (mb_bi Jvm.ClassFile.Reader.u2 (fun r => (pure (.invokespecial r) : mb_dR Instr)) cd (pc + 1) _ _ g).trans ?_
  rfl
theorem mb_k184 : mb_P3 184 .invokestatic := by
  intro cd pc n h g
  delta Jvm.ClassFile.Decoder.instr
  refine (mb_bi _ _ cd pc _ _ h).trans ?_
  refine (mb_bi Jvm.ClassFile.Reader.u2 (fun r => (pure (.invokestatic r) : mb_dR Instr)) cd (pc + 1) _ _ g).trans ?_
  rfl
theorem mb_k187 : mb_P3 187 .new := by
  intro cd pc n h g
  delta Jvm.ClassFile.Decoder.instr
  refine (mb_bi _ _ cd pc _ _ h).trans ?_
  refine (mb_bi Jvm.ClassFile.Reader.u2 (fun r => (pure (.new r) : mb_dR Instr)) cd (pc + 1) _ _ g).trans ?_
  rfl
theorem mb_k189 : mb_P3 189 .anewarray := by
  intro cd pc n h g
  delta Jvm.ClassFile.Decoder.instr
  refine (mb_bi _ _ cd pc _ _ h).trans ?_
  refine (mb_bi Jvm.ClassFile.Reader.u2 (fun r => (pure (.anewarray r) : mb_dR Instr)) cd (pc + 1) _ _ g).trans ?_
  rfl
theorem mb_k190 : mb_P1 190 (.arraylength) := by
  intro cd pc h
  delta Jvm.ClassFile.Decoder.instr
  refine (mb_bi _ _ cd pc _ _ h).trans ?_
  rfl
theorem mb_k191 : mb_P1 191 (.athrow) := by
  intro cd pc h
  delta Jvm.ClassFile.Decoder.instr
  refine (mb_bi _ _ cd pc _ _ h).trans ?_
  rfl
