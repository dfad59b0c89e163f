theorem isMo.new {D : va_G} {μ : zM} {M q : Nat} {x : va_E} (h : isMo D μ M) (hq : ∀ (a : Nat) (e : va_E), μ a = some e → a < q) : isMo D (zu μ q x) M :=
  have k : ∀ (a : Nat) (e : va_E), μ a = some e → zu μ q x a = some e := fun a e ha => zu_k ha (by have := hq a e ha; omega)
  ⟨k _ _ h.1, k _ _ h.2.1, fun j hj => k _ _ (h.2.2.1 j hj), k _ _ h.px, k _ _ h.py, k _ _ h.kr, k _ _ h.kf⟩
theorem zMP.tr {M : Nat} {μ ν u : zM} {t : Int} (h : zN M μ ν) (h2 : zMP M ν t u) : zMP M μ t u := ⟨h2.1, h.tr h2.2⟩
theorem z_newM {X : zX} {l : Launch} {D : va_G} {N0 : Nat} {cc : ByteArray} {nL : Nat} {own : String} {μ : zM} {kc kn pc : Nat} {L : List (Option Value)} {st : List Value} {rk rn rf rw M : Nat} (C : zC X l D N0 cc nL own zWS) (Rm : zR X rk rn rf rw) (hM : isMo D μ M) (d : decode cc pc = .ok (.newarray .boolean, 2)) (hr : kc + 1 ≤ rk ∧ kn + 4096 ≤ rn) (k : ∀ (q : Nat) (ν : zM), isMo D ν M → ν q = some (zAZ D 4096 zIz) → ¬ zb M 14 q → zN M μ ν → Z X ν (kc + 1) (kn + 4096) (pc + 2) L (.ref q :: st)) : Z X μ kc kn pc L (zi 4096 :: st) :=
  z_newZ C Rm (by decide) m_1035 d hr (fun q hN hq => k q _ (hM.new hq) zu_s (by have := hq _ _ hM.kf; unfold zb; omega) (zN.rf.own hq))
theorem z_st0 {X : zX} {D : va_G} {μ : zM} {kc kn pc a k0 : Nat} {L : List (Option Value)} {st : List Value} (h : μ a = some (zAZ D 4096 zIz)) (k : Z X μ kc kn pc L st) : Z X (zu μ a (zAZ D 4096 (zw zIz k0 0))) kc kn pc L st := by
  rw [show zw zIz k0 0 = zIz from zw_id rfl, zu_i h]
  exact k
