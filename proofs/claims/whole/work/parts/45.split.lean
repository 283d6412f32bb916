/-! long tables in pieces -/
section LKS
variable {D : va_G} {A : Nat → Prop} {nL : Nat} {p : Program} {l : Launch} {e : Env} {R : Room} {s : State} {m : MethodId} {args : Array Value} {below : List Frame} {meth : Method} {c : Code} {Q : State → Prop} {KR : RT}
theorem snd_split (n : Nat) {f g : Nat → IT} (hf : ∀ pc, Snd D A nL p l e R s m args below meth c Q KR (f pc) pc) (hg : ∀ pc, Snd D A nL p l e R s m args below meth c Q KR (g pc) pc) : ∀ pc, Snd D A nL p l e R s m args below meth c Q KR (if pc < n then f pc else g pc) pc := by
  intro pc
  by_cases q : pc < n
  · rw [if_pos q]; exact hf pc
  · rw [if_neg q]; exact hg pc
end LKS
