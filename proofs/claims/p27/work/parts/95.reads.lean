/-! answers that change nothing: both rows give the same -/
section
variable {C R : Nat → Int32} {B k : Nat}
theorem Rl.prt (H : Rl C R) (W : Wf C) (hk : k < 3) {i w : Nat} (hi : i < (C (10 + 32 * k)).toNatClampNeg) (hw : w < 3) : C (10 + 32 * k + (8 + w + 3 * i)) = R (10 + 32 * k + (8 + w + 3 * i)) := H.ptj hk (by omega) (by omega)
end

