/-! each of the 27 calls keeps the invariant -/
section
variable {s : St} {t n : Nat} {a b e f : Int32}
theorem S_all (hn : n < 27) (H : PI s t) : OKs s t (fdo n a b e f s) := by
  match n, hn with
  | 0, _ => exact S0 H
  | 1, _ => exact S1 H
  | 2, _ => exact S2 H
  | 3, _ => exact S3 H
  | 4, _ => exact S4 H
  | 5, _ => exact S5 H
  | 6, _ => exact S6 H
  | 7, _ => exact S6 H
  | 8, _ => exact S8 H
  | 9, _ => exact S9 H
  | 10, _ => exact S10 H
  | 11, _ => exact S11 H
  | 12, _ => exact S12 H
  | 13, _ => exact S13 H
  | 14, _ => exact S14 H
  | 15, _ => exact S15 H
  | 16, _ => exact S16 H
  | 17, _ => exact S17 H
  | 18, _ => exact OKq H
  | 19, _ => exact OKq H
  | 20, _ => exact OKq H
  | 21, _ => exact OKq H
  | 22, _ => exact OKq H
  | 23, _ => exact OKq H
  | 24, _ => exact OKq H
  | 25, _ => exact OKq H
  | 26, _ => exact OKq H
  | n + 27, h => omega
theorem F_all {F : St → Int32 × St} (hF : aG F) (H : PI s t) : OKs s t (F s) := by
  rcases hF s with h | ⟨n, a, b, e, f, hn, h⟩
  · rw [h]; exact OKq H
  · rw [h]; exact S_all hn H
end
