section MORE
variable {G : xC} {X : xS} {y : mI} {cb sb pc : Nat} {L L' : List (Option Value)} {st : List Value} {ws : va_W} {Q : Option Value → va_W → Prop}
theorem xs_nil : xSub [] [] := trivial
theorem xs_n {t u : List (Option Value)} {w : Option Value} (h : xSub t u) : xSub (none :: t) (w :: u) := h
theorem xs_s {t u : List (Option Value)} {v : Value} (h : xSub t u) : xSub (some v :: t) (some v :: u) := ⟨rfl, h⟩
theorem Ex.wk (h : Ex G X y cb sb pc L' st ws Q) (hl : xSub L' L) : Ex G X y cb sb pc L st ws Q := h.weakL hl
theorem Ex.int {v v' : Int32} (h : v = v') (k : Ex G X y cb sb pc L (.int v' :: st) ws Q) : Ex G X y cb sb pc L (.int v :: st) ws Q := h ▸ k
end MORE
theorem laL_s {i j k : Nat} {S : sT} : laL i j S (k + 1) = if (laL i j S k).2 (pl j 10) (k + 1) = (-1) then laL i j S k
    else if (laL i j S k).2 (pl i 10) (k + 1) = (-1) then ((laL i j S k).1 + 1, learnS i (k + 1) ((laL i j S k).2 (pl j 10) (k + 1)) (laL i j S k).2) else laL i j S k := rfl
theorem rTl_s {n m k : Nat} {M : sT} : rTl n m M (k + 1) = if (rTl n m M k).2 15 (k + 8 * n) < 0 then rTl n m M k else if (rTl n m M k).2 15 (k + 8 * m) < 0 then ((rTl n m M k).1 + 1, u2 (rTl n m M k).2 15 (k + 8 * m) ((rTl n m M k).2 15 (k + 8 * n))) else rTl n m M k := rfl
