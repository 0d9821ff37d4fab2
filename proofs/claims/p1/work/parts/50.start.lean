/-! THE START: the two constructors, by the kernel -/
def zHi : Nat → Int32 := fun j => match j with
  | 0 => 65535
  | 1 => 65535
  | 2 => 4095
  | 3 => 1
  | 4 => 3
  | 5 => 255
  | 6 => 3
  | 7 => 4095
  | 8 => 4095
  | _ => 1
def zX0 : zX := fun _ => (10, zHi)
abbrev zCr (d z : Nat) (a : List Value) (h : zH) (o : zO) (h' : zH) : Prop := zCR zPg zft zfn zX0 d z a h o h'
abbrev zBy (d : Nat) (M : zM) (o : zO) (h' : zH) (pc : Nat) (lo : zL) (st : List Value) (h : zH) (nc ns : Nat) : Prop := zBx zPg zft zfn zX0 (zCR zPg zft zfn zX0 d) M o h' pc lo st h nc ns
def zEv1 : Option (zO × zH) := zcall zPg zft zfn zX0 6 10 [.ref 0] [.inr (10, zdef zft zfn 10)]
def zHa : zH := match zEv1 with
  | some (.inl none, h) => h
  | _ => []
def zEv2 : Option (zO × zH) := zcall zPg zft zfn zX0 6 11 [.ref 113] (zHa ++ [.inr (11, zdef zft zfn 11)])
def zHb : zH := match zEv2 with
  | some (.inl none, h) => h
  | _ => []
def zisV : Option (zO × zH) → Bool
  | some (.inl none, _) => true
  | _ => false
/-- cells by their shape: an array's kind and length; an object's class and fields -/
abbrev zSh : Type := (Nat × Nat) ⊕ (Nat × List Value)
def zfi (h : zH) (k : Nat) : Nat → Int32 := match h[k]? with
  | some (.inl (_, _, .inl f)) => f
  | _ => fun _ => 0
def zfr (h : zH) (k : Nat) : Nat → Option Nat := match h[k]? with
  | some (.inl (_, _, .inr (.inr (.inr (.inr f))))) => f
  | _ => fun _ => none
def zrl (F : Nat → Nat → Int32) (G : Nat → Nat → Option Nat) (k : Nat) : zSh → zE
  | .inr o => .inr o
  | .inl (kd, n) => bif Nat.ble kd 1 then .inl (kd, n, .inl (F k)) else .inl (kd, n, .inr (.inr (.inr (.inr (G k)))))
def zrls (F : Nat → Nat → Int32) (G : Nat → Nat → Option Nat) : Nat → List zSh → zH
  | _, [] => []
  | k, s :: l => zrl F G k s :: zrls F G (k + 1) l
def zsm1 : zE → zSh → Bool
  | .inr (c, fs), .inr (c', fs') => decide (c = c') && decide (fs = fs')
  | .inl (kd, n, .inl _), .inl (kd', n') => Nat.ble kd' 1 && (Nat.beq kd kd' && Nat.beq n n')
  | .inl (kd, n, .inr (.inr (.inr (.inr _)))), .inl (kd', n') => !(Nat.ble kd' 1) && (Nat.beq kd kd' && Nat.beq n n')
  | _, _ => false
def zsm : zH → List zSh → Bool
  | [], [] => true
  | c :: h, s :: l => zsm1 c s && zsm h l
  | _, _ => false
theorem zsm1_eq {c : zE} {s : zSh} {F : Nat → Nat → Int32} {G : Nat → Nat → Option Nat} {k : Nat} (h : zsm1 c s = true) (hF : ∀ kd n f, c = .inl (kd, n, .inl f) → F k = f) (hG : ∀ kd n f, c = .inl (kd, n, .inr (.inr (.inr (.inr f)))) → G k = f) : c = zrl F G k s := by
  unfold zsm1 at h
  split at h
  · rw [Bool.and_eq_true, decide_eq_true_eq, decide_eq_true_eq] at h
    rw [h.1, h.2]; rfl
  · rename_i kd n f kd' n'
    rw [Bool.and_eq_true, Bool.and_eq_true] at h
    unfold zrl
    dsimp only
    rw [h.1, cond_true, hF _ _ _ rfl, Nat.eq_of_beq_eq_true h.2.1, Nat.eq_of_beq_eq_true h.2.2]
  · rename_i kd n f kd' n'
    rw [Bool.and_eq_true, Bool.and_eq_true, Bool.not_eq_true'] at h
    unfold zrl
    dsimp only
    rw [h.1, cond_false, hG _ _ _ rfl, Nat.eq_of_beq_eq_true h.2.1, Nat.eq_of_beq_eq_true h.2.2]
  · cases h
theorem zsm_eq (H : zH) : ∀ (pre h : zH) (l : List zSh), H = pre ++ h → zsm h l = true → h = zrls (zfi H) (zfr H) pre.length l := by
  intro pre h
  induction h generalizing pre with
  | nil => intro l _ hs; cases l with
    | nil => rfl
    | cons s l => cases hs
  | cons c h ih =>
    intro l hH hs
    cases l with
    | nil => cases hs
    | cons s l =>
    unfold zsm at hs
    rw [Bool.and_eq_true] at hs
    have hk : H[pre.length]? = some c := by rw [hH]; simp
    unfold zrls
    rw [← zsm1_eq (F := zfi H) (G := zfr H) (k := pre.length) hs.1 (fun kd n f e => by unfold zfi; rw [hk, e]) (fun kd n f e => by unfold zfr; rw [hk, e])]
    have h2 := ih (pre ++ [c]) l (by rw [hH, List.append_assoc]; rfl) hs.2
    rw [List.length_append] at h2
    exact congrArg (c :: ·) h2
def zsh : List zSh := [
  .inr (10, [.ref 1, .ref 10, .ref 11, .ref 12, .int 0, .ref 109, .ref 110, .ref 111, .ref 112]),
  .inr (5, [.ref 2, .ref 3, .ref 4, .ref 5, .ref 6, .ref 7, .ref 8, .ref 9, .int 0]),
  .inl (0, 2048),
  .inl (0, 128),
  .inl (0, 128),
  .inl (0, 128),
  .inl (0, 128),
  .inl (0, 1024),
  .inl (1, 64),
  .inl (0, 4),
  .inl (3, 4),
  .inl (4, 8),
  .inl (0, 128),
  .inr (2, [.int 0, .int 0, .int 0, .int 0, .int 0, .int 0, .int 0, .int 0, .int 0, .int 0, .int 0, .ref 14, .ref 15, .ref 17]),
  .inl (0, 200),
  .inr (1, [.ref 16, .int 0, .int 0, .int 0]),
  .inl (0, 256),
  .inr (4, [.ref 18, .int 0]),
  .inl (0, 8),
  .inr (2, [.int 1, .int 0, .int 0, .int 0, .int 0, .int 0, .int 0, .int 0, .int 0, .int 0, .int 0, .ref 20, .ref 21, .ref 23]),
  .inl (0, 200),
  .inr (1, [.ref 22, .int 0, .int 0, .int 0]),
  .inl (0, 256),
  .inr (4, [.ref 24, .int 0]),
  .inl (0, 8),
  .inr (2, [.int 2, .int 0, .int 0, .int 0, .int 0, .int 0, .int 0, .int 0, .int 0, .int 0, .int 0, .ref 26, .ref 27, .ref 29]),
  .inl (0, 200),
  .inr (1, [.ref 28, .int 0, .int 0, .int 0]),
  .inl (0, 256),
  .inr (4, [.ref 30, .int 0]),
  .inl (0, 8),
  .inr (2, [.int 3, .int 0, .int 0, .int 0, .int 0, .int 0, .int 0, .int 0, .int 0, .int 0, .int 0, .ref 32, .ref 33, .ref 35]),
  .inl (0, 200),
  .inr (1, [.ref 34, .int 0, .int 0, .int 0]),
  .inl (0, 256),
  .inr (4, [.ref 36, .int 0]),
  .inl (0, 8),
  .inr (9, [.int 0, .int 0, .ref 38, .ref 39, .ref 40]),
  .inl (0, 19),
  .inl (0, 5),
  .inr (3, [.ref 41, .ref 42, .ref 43, .ref 44, .ref 45, .int 0]),
  .inl (1, 8),
  .inl (0, 8),
  .inl (0, 8),
  .inl (0, 8),
  .inl (0, 8),
  .inr (9, [.int 1, .int 0, .ref 47, .ref 48, .ref 49]),
  .inl (0, 19),
  .inl (0, 5),
  .inr (3, [.ref 50, .ref 51, .ref 52, .ref 53, .ref 54, .int 0]),
  .inl (1, 8),
  .inl (0, 8),
  .inl (0, 8),
  .inl (0, 8),
  .inl (0, 8),
  .inr (9, [.int 2, .int 0, .ref 56, .ref 57, .ref 58]),
  .inl (0, 19),
  .inl (0, 5),
  .inr (3, [.ref 59, .ref 60, .ref 61, .ref 62, .ref 63, .int 0]),
  .inl (1, 8),
  .inl (0, 8),
  .inl (0, 8),
  .inl (0, 8),
  .inl (0, 8),
  .inr (9, [.int 3, .int 0, .ref 65, .ref 66, .ref 67]),
  .inl (0, 19),
  .inl (0, 5),
  .inr (3, [.ref 68, .ref 69, .ref 70, .ref 71, .ref 72, .int 0]),
  .inl (1, 8),
  .inl (0, 8),
  .inl (0, 8),
  .inl (0, 8),
  .inl (0, 8),
  .inr (9, [.int 4, .int 0, .ref 74, .ref 75, .ref 76]),
  .inl (0, 19),
  .inl (0, 5),
  .inr (3, [.ref 77, .ref 78, .ref 79, .ref 80, .ref 81, .int 0]),
  .inl (1, 8),
  .inl (0, 8),
  .inl (0, 8),
  .inl (0, 8),
  .inl (0, 8),
  .inr (9, [.int 5, .int 0, .ref 83, .ref 84, .ref 85]),
  .inl (0, 19),
  .inl (0, 5),
  .inr (3, [.ref 86, .ref 87, .ref 88, .ref 89, .ref 90, .int 0]),
  .inl (1, 8),
  .inl (0, 8),
  .inl (0, 8),
  .inl (0, 8),
  .inl (0, 8),
  .inr (9, [.int 6, .int 0, .ref 92, .ref 93, .ref 94]),
  .inl (0, 19),
  .inl (0, 5),
  .inr (3, [.ref 95, .ref 96, .ref 97, .ref 98, .ref 99, .int 0]),
  .inl (1, 8),
  .inl (0, 8),
  .inl (0, 8),
  .inl (0, 8),
  .inl (0, 8),
  .inr (9, [.int 7, .int 0, .ref 101, .ref 102, .ref 103]),
  .inl (0, 19),
  .inl (0, 5),
  .inr (3, [.ref 104, .ref 105, .ref 106, .ref 107, .ref 108, .int 0]),
  .inl (1, 8),
  .inl (0, 8),
  .inl (0, 8),
  .inl (0, 8),
  .inl (0, 8),
  .inr (6, [.ref 1]),
  .inr (0, [.ref 109, .ref 10, .ref 11]),
  .inr (8, [.ref 109, .ref 110]),
  .inr (7, [.ref 109, .ref 110, .ref 111]),
  .inr (11, [.int 0, .ref 114, .ref 115, .ref 116, .ref 117, .ref 118, .ref 119, .int 0, .ref 120, .ref 121, .ref 122, .ref 123, .ref 124, .ref 125, .ref 126, .ref 127, .ref 128, .ref 129, .ref 130, .ref 131, .ref 132, .ref 133, .ref 134, .ref 135, .ref 136, .ref 137, .ref 138, .ref 139, .ref 140, .ref 141, .ref 142, .ref 143, .ref 144, .ref 145, .ref 146, .int 0, .ref 147, .int 0, .int 0, .int 0, .int 0, .int 0]),
  .inl (0, 2048),
  .inl (0, 128),
  .inl (0, 128),
  .inl (0, 128),
  .inl (0, 1024),
  .inl (1, 64),
  .inl (1, 4),
  .inl (0, 4),
  .inl (0, 4),
  .inl (0, 4),
  .inl (0, 4),
  .inl (0, 4),
  .inl (0, 4),
  .inl (0, 4),
  .inl (0, 4),
  .inl (0, 800),
  .inl (0, 4),
  .inl (0, 4),
  .inl (0, 1024),
  .inl (0, 4),
  .inl (0, 4),
  .inl (0, 4),
  .inl (0, 32),
  .inl (0, 4),
  .inl (1, 8),
  .inl (0, 160),
  .inl (0, 40),
  .inl (0, 8),
  .inl (1, 64),
  .inl (0, 64),
  .inl (0, 64),
  .inl (0, 64),
  .inl (0, 64),
  .inl (0, 128)]
theorem zEv1_v : zisV zEv1 = true := by decide +kernel
theorem zHa_len : zHa.length = 113 := by decide +kernel
theorem zEv2_v : zisV zEv2 = true := by decide +kernel
theorem zHb_sm : zsm zHb zsh = true := by decide +kernel
theorem zHb_F4 : (List.range 128).all (fun j => decide (zfi zHb 4 j = -1)) = true := by decide +kernel
theorem zHb_F5 : (List.range 128).all (fun j => decide (zfi zHb 5 j = -1)) = true := by decide +kernel
theorem zHb_G : zfr zHb 10 0 = some 13 ∧ zfr zHb 10 1 = some 19 ∧ zfr zHb 10 2 = some 25 ∧ zfr zHb 10 3 = some 31 ∧ zfr zHb 11 0 = some 37 ∧ zfr zHb 11 1 = some 46 ∧ zfr zHb 11 2 = some 55 ∧ zfr zHb 11 3 = some 64 ∧ zfr zHb 11 4 = some 73 ∧ zfr zHb 11 5 = some 82 ∧ zfr zHb 11 6 = some 91 ∧ zfr zHb 11 7 = some 100 := by decide +kernel
