/-! the script: what the law reads is no negative number -/
section CE
theorem and_n (x : Int32) : ∃ C, C < 2147483648 ∧ x &&& (2147483647 : Int32) = Int32.ofNat C := by
  refine ⟨(x &&& (2147483647 : Int32)).toBitVec.toNat, ?_, ?_⟩
  · have e : (x &&& (2147483647 : Int32)).toBitVec.toNat = x.toBitVec.toNat &&& 2147483647 := by
      show (x.toBitVec &&& 2147483647#32).toNat = _
      rw [BitVec.toNat_and]
      rfl
    rw [e]
    exact Nat.lt_of_le_of_lt Nat.and_le_right (by decide)
  · refine Int32.toBitVec_inj.1 ?_
    show _ = BitVec.ofNat 32 _
    rw [BitVec.ofNat_toNat, BitVec.setWidth_eq]
theorem lg_self (x : Int64) : lg_cmp x x = 0 := by
  unfold lg_cmp
  simp
variable {G : GG} {X : XH} {K : Int32 → XH → Prop} {k : Nat}
theorem cellO (hM : G.2.2.1 ≤ 2048) (hk : k ≤ 70) (h : ∀ C, C < 2147483648 → K (Int32.ofNat C) X) : w_L_cell G 0 (Int32.ofNat k) X K := by
  refine ⟨fun _ => ?_, fun h1 => ⟨?_, ?_⟩⟩
  · obtain ⟨C, hC, e⟩ := and_n (((94477 : Int32) * (Int32.ofNat k + (269 : Int32))) + (313 : Int32))
    rw [e]
    exact h C hC
  · rw [of_le (by omega) (by omega)] at h1
    rw [vp_of (by omega) (by omega)]
    trivial
  · obtain ⟨C, hC, e⟩ := and_n (G.2.2.2.1 (Int32.toNatClampNeg (Int32.ofNat k)))
    rw [e]
    exact h C hC
end CE
