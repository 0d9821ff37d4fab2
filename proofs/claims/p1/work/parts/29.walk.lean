/-! WALKS over the relation: closed ones by the kernel, symbolic ones by rows -/
section ZX
variable {Pg : List zM} {FT : zFT} {FN : Nat → Nat} {X : zX} {cr cr' : Nat → List Value → zH → zO → zH → Prop} {M M' : zM} {o : zO} {h h1 h' : zH} {pc nc ns : Nat} {lo : zL} {st : List Value} {en : zN}
/-- a body comes to its end -/
def zBx (Pg : List zM) (FT : zFT) (FN : Nat → Nat) (X : zX) (cr : Nat → List Value → zH → zO → zH → Prop) (M : zM) (o : zO) (h' : zH) (pc : Nat) (lo : zL) (st : List Value) (h : zH) (nc ns : Nat) : Prop := ∃ f : Nat, zBR Pg FT FN X cr M o h' f pc lo st h nc ns
theorem zBR_of {call : Nat → List Value → zH → Option (zO × zH)} (hc : ∀ z a h o h', call z a h = some (o, h') → cr z a h o h') : ∀ (f pc : Nat) (lo : zL) (st : List Value) (h : zH) (nc ns : Nat), zbody Pg FT FN X call M f pc lo st h nc ns = some (o, h') → zBR Pg FT FN X cr M o h' f pc lo st h nc ns := by
  intro f
  induction f with
  | zero => intro pc lo st h nc ns hb; unfold zbody at hb; cases hb
  | succ f ih =>
    intro pc lo st h nc ns hb
    unfold zbody at hb
    unfold zBR
    cases h1 : zfind (zIns M) pc with
    | none => rw [h1] at hb; cases hb
    | some en =>
    rw [h1] at hb
    dsimp only at hb ⊢
    cases h2 : zend en.2.1 (zRet M) st with
    | some r => rw [h2] at hb; cases hb; exact ⟨rfl, rfl⟩
    | none =>
    rw [h2] at hb
    dsimp only at hb ⊢
    cases h3 : zmak FT FN en st with
    | some q =>
      obtain ⟨n, r, c, k⟩ := q
      rw [h3] at hb
      dsimp only at hb ⊢
      cases hbb : Nat.blt nc (zRoom M).2.2.1 && Nat.ble (ns + k) (zRoom M).2.2.2 with
      | false => rw [hbb, cond_false] at hb; cases hb
      | true => rw [hbb, cond_true] at hb; exact ⟨rfl, ih _ _ _ _ _ _ hb⟩
    | none =>
    rw [h3] at hb
    dsimp only at hb ⊢
    cases h4 : zown M en st with
    | some st' => rw [h4] at hb; exact ih _ _ _ _ _ _ hb
    | none =>
    rw [h4] at hb
    dsimp only at hb ⊢
    cases h5 : zcl en.2.1 with
    | some kd =>
      rw [h5] at hb
      dsimp only at hb ⊢
      cases h6 : zinv Pg M en kd st h nc ns with
      | none => rw [h6] at hb; cases hb
      | some q =>
      obtain ⟨M', a, r⟩ := q
      rw [h6] at hb
      dsimp only at hb ⊢
      cases h7 : call en.2.2.2.1 a h with
      | none => rw [h7] at hb; cases hb
      | some q =>
      obtain ⟨o1, h8⟩ := q
      rw [h7] at hb
      refine ⟨o1, h8, hc _ _ _ _ _ h7, ?_⟩
      cases o1 with
      | inl v => exact ih _ _ _ _ _ _ hb
      | inr k =>
      dsimp only at hb ⊢
      cases hbb : Nat.beq kd 2 || (Nat.beq en.2.2.2.2.1 1 || !(zTab M').isEmpty) with
      | true => rw [hbb, cond_true] at hb; cases hb
      | false =>
      rw [hbb, cond_false] at hb
      refine ⟨rfl, ?_⟩
      cases h9 : zTab M with
      | nil => rw [h9] at hb; cases hb; exact ⟨rfl, rfl⟩
      | cons t0 tb =>
      rw [h9] at hb
      dsimp only at hb ⊢
      cases h10 : zhand (t0 :: tb) pc k with
      | none => rw [h10] at hb; cases hb
      | some t =>
      rw [h10] at hb
      dsimp only at hb ⊢
      cases h11 : zfind (zIns M) t with
      | none => rw [h11] at hb; cases hb
      | some en2 =>
      rw [h11] at hb
      dsimp only at hb ⊢
      cases h12 : zsto en2.2.1 with
      | none => rw [h12] at hb; cases hb
      | some q =>
      obtain ⟨j, n, b⟩ := q
      rw [h12] at hb
      cases b with
      | false => cases hb
      | true =>
      dsimp only at hb ⊢
      cases hbj : Nat.blt j (zMaxL M) with
      | false => rw [hbj, cond_false] at hb; cases hb
      | true => rw [hbj, cond_true] at hb; exact ⟨rfl, ih _ _ _ _ _ _ hb⟩
    | none =>
    rw [h5] at hb
    dsimp only at hb ⊢
    split at hb
    · rename_i ix hnew
      rw [hnew]
      dsimp only
      cases hbb : Nat.ble (nc + 1) (zRoom M).2.2.1 && (Nat.ble (ns + 6) (zRoom M).2.2.2 && Nat.ble (zWt st) 8) with
      | false => rw [hbb, cond_false] at hb; cases hb
      | true => rw [hbb, cond_true] at hb; cases hb; exact ⟨rfl, rfl, rfl⟩
    · rename_i hnn
      cases h6 : zstep M FT X en lo st h with
      | none => rw [h6] at hb; cases hb
      | some q =>
      obtain ⟨pc', lo', st', h8⟩ := q
      rw [h6] at hb
      dsimp only at hb ⊢
      split
      · rename_i ix hnew; exact absurd hnew (hnn ix)
      · exact ih _ _ _ _ _ _ hb
theorem zCR_of : ∀ (d z : Nat) (a : List Value) (h : zH) (o : zO) (h' : zH), zcall Pg FT FN X d z a h = some (o, h') → zCR Pg FT FN X d z a h o h' := by
  intro d
  induction d with
  | zero => intro z a h o h' hc; unfold zcall at hc; cases hc
  | succ d ih =>
    intro z a h o h' hc
    unfold zcall at hc
    cases hz : Pg[z]? with
    | none => rw [hz] at hc; cases hc
    | some M =>
    rw [hz] at hc
    dsimp only at hc
    cases hbb : Nat.ble a.length (zMaxL M) && a.all (fun v => Nat.beq v.category 1) with
    | false => rw [hbb, cond_false] at hc; cases hc
    | true => rw [hbb, cond_true] at hc; exact ⟨M, hz, hbb, zfuel, zBR_of ih _ _ _ _ _ _ _ hc⟩
theorem zBR_mono (hcc : ∀ z a h o h', cr z a h o h' → cr' z a h o h') : ∀ (f pc : Nat) (lo : zL) (st : List Value) (h : zH) (nc ns : Nat), zBR Pg FT FN X cr M o h' f pc lo st h nc ns → zBR Pg FT FN X cr' M o h' f pc lo st h nc ns := by
  intro f
  induction f with
  | zero => intro pc lo st h nc ns hb; exact hb
  | succ f ih =>
    intro pc lo st h nc ns hb
    unfold zBR at hb ⊢
    cases h1 : zfind (zIns M) pc with
    | none => rw [h1] at hb; exact hb
    | some en =>
    rw [h1] at hb
    dsimp only at hb ⊢
    cases h2 : zend en.2.1 (zRet M) st with
    | some r => rw [h2] at hb; exact hb
    | none =>
    rw [h2] at hb
    dsimp only at hb ⊢
    cases h3 : zmak FT FN en st with
    | some q => rw [h3] at hb; exact ⟨hb.1, ih _ _ _ _ _ _ hb.2⟩
    | none =>
    rw [h3] at hb
    dsimp only at hb ⊢
    cases h4 : zown M en st with
    | some st' => rw [h4] at hb; exact ih _ _ _ _ _ _ hb
    | none =>
    rw [h4] at hb
    dsimp only at hb ⊢
    cases h5 : zcl en.2.1 with
    | some kd =>
      rw [h5] at hb
      dsimp only at hb ⊢
      cases h6 : zinv Pg M en kd st h nc ns with
      | none => rw [h6] at hb; exact hb
      | some q =>
      obtain ⟨M', a, r⟩ := q
      rw [h6] at hb
      dsimp only at hb ⊢
      obtain ⟨o1, h8, h7, hb⟩ := hb
      refine ⟨o1, h8, hcc _ _ _ _ _ h7, ?_⟩
      cases o1 with
      | inl v => exact ih _ _ _ _ _ _ hb
      | inr k =>
      dsimp only at hb ⊢
      refine ⟨hb.1, ?_⟩
      have hb := hb.2
      cases h9 : zTab M with
      | nil => rw [h9] at hb; exact hb
      | cons t0 tb =>
      rw [h9] at hb
      dsimp only at hb ⊢
      cases h10 : zhand (t0 :: tb) pc k with
      | none => rw [h10] at hb; exact hb
      | some t =>
      rw [h10] at hb
      dsimp only at hb ⊢
      cases h11 : zfind (zIns M) t with
      | none => rw [h11] at hb; exact hb
      | some en2 =>
      rw [h11] at hb
      dsimp only at hb ⊢
      cases h12 : zsto en2.2.1 with
      | none => rw [h12] at hb; exact hb
      | some q =>
      obtain ⟨j, n, b⟩ := q
      rw [h12] at hb
      cases b with
      | false => exact hb
      | true => exact ⟨hb.1, ih _ _ _ _ _ _ hb.2⟩
    | none =>
    rw [h5] at hb
    dsimp only at hb ⊢
    split at hb
    · exact hb
    · cases h6 : zstep M FT X en lo st h with
      | none => rw [h6] at hb; exact hb.elim
      | some q =>
      rw [h6] at hb
      exact ih _ _ _ _ _ _ hb
theorem zCR_succ : ∀ (d z : Nat) (a : List Value) (h : zH) (o : zO) (h' : zH), zCR Pg FT FN X d z a h o h' → zCR Pg FT FN X (d + 1) z a h o h' := by
  intro d
  induction d with
  | zero => intro z a h o h' hc; exact hc.elim
  | succ d ih =>
    intro z a h o h' hc
    obtain ⟨M, h1, h2, f, h3⟩ := hc
    exact ⟨M, h1, h2, f, zBR_mono ih _ _ _ _ _ _ _ h3⟩
theorem zCR_le {d e : Nat} (hde : d ≤ e) {z : Nat} {a : List Value} (hc : zCR Pg FT FN X d z a h o h') : zCR Pg FT FN X e z a h o h' := by
  induction hde with
  | refl => exact hc
  | step _ ih => exact zCR_succ _ _ _ _ _ _ ih
/-- instructions that only step -/
def zplain (i : Instr) : Bool := match i with
  | .ireturn => false
  | .areturn => false
  | .return_ => false
  | .new _ => false
  | .newarray _ => false
  | .anewarray _ => false
  | .invokevirtual _ => false
  | .invokestatic _ => false
  | .invokespecial _ => false
  | _ => true
theorem zplain_end {i : Instr} (hp : zplain i = true) {ret : Option FieldType} {st : List Value} : zend i ret st = none := by
  unfold zend
  split <;> first | rfl | cases hp
theorem zplain_mak (hp : zplain en.2.1 = true) : zmak FT FN en st = none := by
  unfold zmak
  split <;> first | rfl | (rename_i hq; rw [hq] at hp; cases hp)
theorem zplain_own (hp : zplain en.2.1 = true) : zown M en st = none := by
  unfold zown
  split <;> first | rfl | (rename_i hq _; rw [hq] at hp; cases hp)
theorem zplain_cl {i : Instr} (hp : zplain i = true) : zcl i = none := by
  unfold zcl
  split <;> first | rfl | cases hp
/-- one step -/
theorem zx_s {pc' : Nat} {lo' : zL} {st' : List Value} (hf : zfind (zIns M) pc = some en) (hp : zplain en.2.1 = true) (hs : zstep M FT X en lo st h = some (pc', lo', st', h1)) (k : zBx Pg FT FN X cr M o h' pc' lo' st' h1 nc ns) : zBx Pg FT FN X cr M o h' pc lo st h nc ns := by
  obtain ⟨f, k⟩ := k
  refine ⟨f + 1, ?_⟩
  unfold zBR
  rw [hf]
  dsimp only
  rw [zplain_end hp]
  dsimp only
  rw [zplain_mak hp]
  dsimp only
  rw [zplain_own hp]
  dsimp only
  rw [zplain_cl hp]
  dsimp only
  split
  · rename_i ix hq; rw [hq] at hp; cases hp
  · rw [hs]; exact k
/-- many steps -/
def zgo (M : zM) (FT : zFT) (X : zX) : Nat → Nat → zL → List Value → zH → zS
  | 0, pc, lo, st, h => (pc, lo, st, h)
  | k + 1, pc, lo, st, h => match zfind (zIns M) pc with
    | some en => bif zplain en.2.1 then (match zstep M FT X en lo st h with
      | some (pc', lo', st', h1) => zgo M FT X k pc' lo' st' h1
      | none => (pc, lo, st, h)) else (pc, lo, st, h)
    | none => (pc, lo, st, h)
theorem zx_go {pc' : Nat} {lo' : zL} {st' : List Value} : ∀ (k : Nat) {pc : Nat} {lo : zL} {st : List Value} {h : zH}, zgo M FT X k pc lo st h = (pc', lo', st', h1) → zBx Pg FT FN X cr M o h' pc' lo' st' h1 nc ns → zBx Pg FT FN X cr M o h' pc lo st h nc ns := by
  intro k
  induction k with
  | zero => intro pc lo st h hg kk; unfold zgo at hg; cases hg; exact kk
  | succ k ih =>
    intro pc lo st h hg kk
    unfold zgo at hg
    split at hg
    · rename_i en hf
      cases hp : zplain en.2.1 with
      | false => rw [hp, cond_false] at hg; cases hg; exact kk
      | true =>
      rw [hp, cond_true] at hg
      split at hg
      · rename_i p2 l2 s2 h2 hs
        exact zx_s hf hp hs (ih hg kk)
      · cases hg; exact kk
    · cases hg; exact kk
/-- an end -/
theorem zx_r {r : Option Value} (hf : zfind (zIns M) pc = some en) (he : zend en.2.1 (zRet M) st = some r) : zBx Pg FT FN X cr M (.inl r) h pc lo st h nc ns := by
  refine ⟨1, ?_⟩
  unfold zBR
  rw [hf]
  dsimp only
  rw [he]
  exact ⟨rfl, rfl⟩
theorem zcl_end {i : Instr} {kd : Nat} (hc : zcl i = some kd) {ret : Option FieldType} {st : List Value} : zend i ret st = none := by
  unfold zend
  split <;> first | rfl | cases hc
theorem zcl_mak {kd : Nat} (hc : zcl en.2.1 = some kd) : zmak FT FN en st = none := by
  unfold zmak
  split <;> first | rfl | (rename_i hq; rw [hq] at hc; cases hc)
/-- a call that returns -/
theorem zx_c {kd : Nat} {a r : List Value} {v : Option Value} (hf : zfind (zIns M) pc = some en) (hc : zcl en.2.1 = some kd) (ho : zown M en st = none) (hi : zinv Pg M en kd st h nc ns = some (M', a, r)) (hcr : cr en.2.2.2.1 a h (.inl v) h1)
    (k : zBx Pg FT FN X cr M o h' (pc + 3) lo (v.toList ++ r) h1 (nc + (zRoom M').2.2.1) (ns + (zRoom M').2.2.2)) : zBx Pg FT FN X cr M o h' pc lo st h nc ns := by
  obtain ⟨f, k⟩ := k
  refine ⟨f + 1, ?_⟩
  unfold zBR
  rw [hf]
  dsimp only
  rw [zcl_end hc]
  dsimp only
  rw [zcl_mak hc]
  dsimp only
  rw [ho]
  dsimp only
  rw [hc]
  dsimp only
  rw [hi]
  exact ⟨.inl v, h1, hcr, k⟩
/-- Object's constructor, Math.min -/
theorem zx_o {kd : Nat} {st' : List Value} (hf : zfind (zIns M) pc = some en) (hc : zcl en.2.1 = some kd) (ho : zown M en st = some st') (k : zBx Pg FT FN X cr M o h' (pc + 3) lo st' h nc ns) : zBx Pg FT FN X cr M o h' pc lo st h nc ns := by
  obtain ⟨f, k⟩ := k
  refine ⟨f + 1, ?_⟩
  unfold zBR
  rw [hf]
  dsimp only
  rw [zcl_end hc]
  dsimp only
  rw [zcl_mak hc]
  dsimp only
  rw [ho]
  exact k
/-- a call that throws, and nothing catches it here -/
theorem zx_x {kd k : Nat} {a r : List Value} (hf : zfind (zIns M) pc = some en) (hc : zcl en.2.1 = some kd) (ho : zown M en st = none) (hi : zinv Pg M en kd st h nc ns = some (M', a, r)) (hcr : cr en.2.2.2.1 a h (.inr k) h1) (hb : (Nat.beq kd 2 || (Nat.beq en.2.2.2.2.1 1 || !(zTab M').isEmpty)) = false) (ht : zTab M = []) : zBx Pg FT FN X cr M (.inr k) h1 pc lo st h nc ns := by
  refine ⟨1, ?_⟩
  unfold zBR
  rw [hf]
  dsimp only
  rw [zcl_end hc]
  dsimp only
  rw [zcl_mak hc]
  dsimp only
  rw [ho]
  dsimp only
  rw [hc]
  dsimp only
  rw [hi]
  refine ⟨.inr k, h1, hcr, hb, ?_⟩
  rw [ht]
  exact ⟨rfl, rfl⟩
/-- a call that throws, caught here -/
theorem zx_k {kd k t j n : Nat} {a r : List Value} {en2 : zN} (hf : zfind (zIns M) pc = some en) (hc : zcl en.2.1 = some kd) (ho : zown M en st = none) (hi : zinv Pg M en kd st h nc ns = some (M', a, r)) (hcr : cr en.2.2.2.1 a h (.inr k) h1) (hb : (Nat.beq kd 2 || (Nat.beq en.2.2.2.2.1 1 || !(zTab M').isEmpty)) = false) (ht : zTab M ≠ []) (hh : zhand (zTab M) pc k = some t) (hf2 : zfind (zIns M) t = some en2) (hs2 : zsto en2.2.1 = some (j, n, true)) (hj : Nat.blt j (zMaxL M) = true)
    (kk : zBx Pg FT FN X cr M o h' (t + n) (lo.filter (fun q => !(Nat.beq q.1 j))) [] h1 (nc + (zRoom M').2.2.1) (ns + (zRoom M').2.2.2)) : zBx Pg FT FN X cr M o h' pc lo st h nc ns := by
  obtain ⟨f, kk⟩ := kk
  refine ⟨f + 1, ?_⟩
  unfold zBR
  rw [hf]
  dsimp only
  rw [zcl_end hc]
  dsimp only
  rw [zcl_mak hc]
  dsimp only
  rw [ho]
  dsimp only
  rw [hc]
  dsimp only
  rw [hi]
  refine ⟨.inr k, h1, hcr, hb, ?_⟩
  cases h9 : zTab M with
  | nil => exact absurd h9 ht
  | cons t0 tb =>
  rw [h9] at hh
  dsimp only
  rw [hh]
  dsimp only
  rw [hf2]
  dsimp only
  rw [hs2]
  exact ⟨hj, kk⟩
/-- a making -/
theorem zx_m {n k : Nat} {r : List Value} {c : zE} (hf : zfind (zIns M) pc = some en) (he : zend en.2.1 (zRet M) st = none) (hm : zmak FT FN en st = some (n, r, c, k)) (hb : (Nat.blt nc (zRoom M).2.2.1 && Nat.ble (ns + k) (zRoom M).2.2.2) = true) (kk : zBx Pg FT FN X cr M o h' (pc + n) lo (.ref h.length :: r) (h ++ [c]) (nc + 1) (ns + k)) : zBx Pg FT FN X cr M o h' pc lo st h nc ns := by
  obtain ⟨f, kk⟩ := kk
  refine ⟨f + 1, ?_⟩
  unfold zBR
  rw [hf]
  dsimp only
  rw [he]
  dsimp only
  rw [hm]
  exact ⟨hb, kk⟩
end ZX
