section DecB4
theorem dL_begins_430 : decode cL_begins 430 = .ok (.iload_n 3, 1) := by decide +kernel
theorem dL_begins_431 : decode cL_begins 431 = .ok (.if_icmp .ne 7, 3) := by decide +kernel
theorem dL_begins_434 : decode cL_begins 434 = .ok (.iconst 1, 1) := by decide +kernel
theorem dL_begins_435 : decode cL_begins 435 = .ok (.goto 4, 3) := by decide +kernel
theorem dL_begins_438 : decode cL_begins 438 = .ok (.iconst 0, 1) := by decide +kernel
theorem dL_begins_439 : decode cL_begins 439 = .ok (.ireturn, 1) := by decide +kernel
end DecB4
