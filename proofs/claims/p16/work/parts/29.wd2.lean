theorem iw_961 : (Cond.declares ⟨"java/lang/Object", "getClass", "()Ljava/lang/Class;"⟩) ∈ tb := tb_in 961 (by decide +kernel) (by decide +kernel)
